/-! THE CLASS: its constructor -/
theorem kv_u (K : Nat × v_TY) : UPK K (kv9 K) := ⟨by show K.1 ≤ K.1 + 9; omega, fun _ _ _ h => v_is_old (v_is_old (v_is_old (v_is_old (v_is_old (v_is_old (v_is_old (v_is_old (v_is_old h))))))))⟩
def nV (s : Nat) (M : v_MM) : v_MM := (kv9 (v_k M.1 9 0), zv (v_k M.1 9 0) (v_z M.2.1 M.1.1 0) 0, zv (v_k M.1 9 0) (v_z M.2.2.1 M.1.1 0) 0, v_u (rv (v_k M.1 9 0) (v_z M.2.2.2 M.1.1 none) M.1.1) 0 s (some M.1.1))
def nT (s : Nat) (M : v_MM) : v_MM := (kt5 (v_k M.1 7 0), zt (v_k M.1 7 0) (v_z M.2.1 M.1.1 0) 0, zt (v_k M.1 7 0) (v_z M.2.2.1 M.1.1 0) 0, v_u (rt5 (v_k M.1 7 0) (v_z M.2.2.2 M.1.1 none) M.1.1) 0 s (some M.1.1))
def nA (k n s : Nat) (M : v_MM) : v_MM := (v_k M.1 k n, v_z M.2.1 M.1.1 0, v_z M.2.2.1 M.1.1 0, v_u (v_z M.2.2.2 M.1.1 none) 0 s (some M.1.1))
def nR (s : Nat) (M : v_MM) : v_MM := (v_k (v_k M.1 8 0) 14 20, v_z (v_z M.2.1 M.1.1 0) (v_k M.1 8 0).1 0, v_z (v_z M.2.2.1 M.1.1 0) (v_k M.1 8 0).1 0, v_u (v_u (v_z (v_z M.2.2.2 M.1.1 none) (v_k M.1 8 0).1 none) M.1.1 0 (some (v_k M.1 8 0).1)) 0 s (some M.1.1))
def nP (i : Nat) (M : v_MM) : v_MM := (v_k (v_k M.1 5 0) 15 60, v_z (v_u (v_z M.2.1 M.1.1 0) M.1.1 0 (-1)) (v_k M.1 5 0).1 0, v_z (v_z M.2.2.1 M.1.1 0) (v_k M.1 5 0).1 0, v_u (v_u (v_z (v_z M.2.2.2 M.1.1 none) (v_k M.1 5 0).1 none) M.1.1 2 (some (v_k M.1 5 0).1)) 38 i (some M.1.1))
abbrev rm_X11_init : Room := { frames := 20, cells := 54, slots := 1061, locals := 600 }
set_option maxRecDepth 20000 in
theorem c_X11_init (G : v_G) (l : Launch) {K : Nat × v_TY} {I : Nat → Nat → Int32} {J : Nat → Nat → Int64} {R : Nat → Nat → Option Nat} (h0 : v_is K 0 11 0) (hk : K.1 = 1) : v_M G l yX11_init cX11_init 2 none rm_X11_init [.ref 0] (K, I, J, R) (v_Qv G (fun (M' : v_MM) => M' = (nP 5 (nP 4 (nP 3 (nP 2 (nP 1 (nP 0 (nA 14 4 11 (nA 14 15 10 (nR 9 (nA 18 6 8 (nA 13 100 6 (nT 4 (nV 2 (nV 1 (nV 0 (K, I, J, R)))))))))))))))))) := by
  refine v_of [some (.ref 0), none] (by decide) (Nat.le_of_ble_eq_true rfl) (Nat.le_of_ble_eq_true rfl) rfl ?_
  refine v_aload_n (pc := 0) dX11_init_0 rfl rfl ?_
  refine v_objInit (pc := 1) kO_X11_3 ko1 ko2 dX11_init_1 (Nat.le_of_ble_eq_true rfl) (Nat.le_of_ble_eq_true rfl) ?_
  have k15 : ∀ (K : Nat × v_TY) (I : Nat → Nat → Int32) (J : Nat → Nat → Int64) (R : Nat → Nat → Option Nat), v_is K 0 11 0 → K.1 = 55 → v_is K 38 18 6 → R 0 8 = some 38 → v_V G l yX11_init cX11_init 2 none rm_X11_init (v_Qv G (fun (M' : v_MM) => M' = (K, I, J, R))) 54 1061 93 [some (.ref 0), some (.int (nI 6))] [] (K, I, J, R) := by
    intro K I J R h0 hk h38 r38
    refine v_iload_n (pc := 93) dX11_init_93 rfl rfl ?_
    refine v_bipush (pc := 94) (v := nI 6) dX11_init_94 (by decide) ?_
    refine v_icmp_geN (pc := 96) (tgt := 118) ⟨by omega, by omega⟩ dX11_init_96 (by decide) (fun c96 => ?_) (fun c96 => ?_)
    · exact v_vret (pc := 118) dX11_init_118 rfl (Nat.le_of_ble_eq_true rfl) (Nat.le_of_ble_eq_true rfl) rfl
    · exact absurd c96 (by decide)
  have k14 : ∀ (K : Nat × v_TY) (I : Nat → Nat → Int32) (J : Nat → Nat → Int64) (R : Nat → Nat → Option Nat), v_is K 0 11 0 → K.1 = 53 → v_is K 38 18 6 → R 0 8 = some 38 → v_V G l yX11_init cX11_init 2 none rm_X11_init (v_Qv G (fun (M' : v_MM) => M' = (nP 5 (K, I, J, R)))) 52 998 93 [some (.ref 0), some (.int (nI 5))] [] (K, I, J, R) := by
    intro K I J R h0 hk h38 r38
    refine v_iload_n (pc := 93) dX11_init_93 rfl rfl ?_
    refine v_bipush (pc := 94) (v := nI 6) dX11_init_94 (by decide) ?_
    refine v_icmp_geN (pc := 96) (tgt := 118) ⟨by omega, by omega⟩ dX11_init_96 (by decide) (fun c96 => ?_) (fun c96 => ?_)
    · exact absurd c96 (by decide)
    · refine v_aload_n (pc := 99) dX11_init_99 rfl rfl ?_
      refine v_getH (pc := 100) fg_X11_37_11 dX11_init_100 h0 r38 ?_
      refine v_iload_n (pc := 103) dX11_init_103 rfl rfl ?_
      refine v_new (pc := 104) nw_X11_35 dX11_init_104 (by omega) (Nat.le_of_ble_eq_true rfl) (Nat.le_of_ble_eq_true rfl) ?_
      refine v_dup (pc := 107) dX11_init_107 rfl ?_
      refine v_cv (pc := 108) (v_rIN (c_X5_init G l (t := K.1) v_is_new (by show K.1 + 1 < 900000; omega)) rfl kIN_X11_55 ⟨Nat.le_of_ble_eq_true rfl, Nat.le_of_ble_eq_true rfl⟩ ⟨Nat.le_of_ble_eq_true rfl, Nat.le_of_ble_eq_true rfl⟩ dX11_init_108 (Nat.le_of_ble_eq_true rfl)) (fun M108 h108 => ?_)
      subst h108
      refine v_aastore (pc := 111) (t0 := 5) dX11_init_111 (v_is_old (v_is_old h38)) (Or.inr rfl) rfl (vp_in_nI (by decide) (by decide)) (v_is_old v_is_new) (by decide) rfl (Or.inl rfl) ?_
      rw [nI_clamp (show 5 < 2 ^ 31 by decide)]
      refine v_iincN (pc := 112) (b := 1) dX11_init_112 rfl (by decide) (by decide) rfl ?_
      refine v_goto (pc := 115) (tgt := 93) dX11_init_115 (by decide) ?_
      exact k15 _ _ _ _ (v_is_old (v_is_old h0)) (by show K.1 + 2 = 55; omega) (v_is_old (v_is_old h38)) ((v_u_h (by decide)).trans ((v_u_h (show 0 ≠ K.1 by omega)).trans ((v_z_h (show 0 ≠ K.1 + 1 by omega)).trans ((v_z_h (show 0 ≠ K.1 by omega)).trans r38))))
  have k13 : ∀ (K : Nat × v_TY) (I : Nat → Nat → Int32) (J : Nat → Nat → Int64) (R : Nat → Nat → Option Nat), v_is K 0 11 0 → K.1 = 51 → v_is K 38 18 6 → R 0 8 = some 38 → v_V G l yX11_init cX11_init 2 none rm_X11_init (v_Qv G (fun (M' : v_MM) => M' = (nP 5 (nP 4 (K, I, J, R))))) 50 935 93 [some (.ref 0), some (.int (nI 4))] [] (K, I, J, R) := by
    intro K I J R h0 hk h38 r38
    refine v_iload_n (pc := 93) dX11_init_93 rfl rfl ?_
    refine v_bipush (pc := 94) (v := nI 6) dX11_init_94 (by decide) ?_
    refine v_icmp_geN (pc := 96) (tgt := 118) ⟨by omega, by omega⟩ dX11_init_96 (by decide) (fun c96 => ?_) (fun c96 => ?_)
    · exact absurd c96 (by decide)
    · refine v_aload_n (pc := 99) dX11_init_99 rfl rfl ?_
      refine v_getH (pc := 100) fg_X11_37_11 dX11_init_100 h0 r38 ?_
      refine v_iload_n (pc := 103) dX11_init_103 rfl rfl ?_
      refine v_new (pc := 104) nw_X11_35 dX11_init_104 (by omega) (Nat.le_of_ble_eq_true rfl) (Nat.le_of_ble_eq_true rfl) ?_
      refine v_dup (pc := 107) dX11_init_107 rfl ?_
      refine v_cv (pc := 108) (v_rIN (c_X5_init G l (t := K.1) v_is_new (by show K.1 + 1 < 900000; omega)) rfl kIN_X11_55 ⟨Nat.le_of_ble_eq_true rfl, Nat.le_of_ble_eq_true rfl⟩ ⟨Nat.le_of_ble_eq_true rfl, Nat.le_of_ble_eq_true rfl⟩ dX11_init_108 (Nat.le_of_ble_eq_true rfl)) (fun M108 h108 => ?_)
      subst h108
      refine v_aastore (pc := 111) (t0 := 5) dX11_init_111 (v_is_old (v_is_old h38)) (Or.inr rfl) rfl (vp_in_nI (by decide) (by decide)) (v_is_old v_is_new) (by decide) rfl (Or.inl rfl) ?_
      rw [nI_clamp (show 4 < 2 ^ 31 by decide)]
      refine v_iincN (pc := 112) (b := 1) dX11_init_112 rfl (by decide) (by decide) rfl ?_
      refine v_goto (pc := 115) (tgt := 93) dX11_init_115 (by decide) ?_
      exact k14 _ _ _ _ (v_is_old (v_is_old h0)) (by show K.1 + 2 = 53; omega) (v_is_old (v_is_old h38)) ((v_u_h (by decide)).trans ((v_u_h (show 0 ≠ K.1 by omega)).trans ((v_z_h (show 0 ≠ K.1 + 1 by omega)).trans ((v_z_h (show 0 ≠ K.1 by omega)).trans r38))))
  have k12 : ∀ (K : Nat × v_TY) (I : Nat → Nat → Int32) (J : Nat → Nat → Int64) (R : Nat → Nat → Option Nat), v_is K 0 11 0 → K.1 = 49 → v_is K 38 18 6 → R 0 8 = some 38 → v_V G l yX11_init cX11_init 2 none rm_X11_init (v_Qv G (fun (M' : v_MM) => M' = (nP 5 (nP 4 (nP 3 (K, I, J, R)))))) 48 872 93 [some (.ref 0), some (.int (nI 3))] [] (K, I, J, R) := by
    intro K I J R h0 hk h38 r38
    refine v_iload_n (pc := 93) dX11_init_93 rfl rfl ?_
    refine v_bipush (pc := 94) (v := nI 6) dX11_init_94 (by decide) ?_
    refine v_icmp_geN (pc := 96) (tgt := 118) ⟨by omega, by omega⟩ dX11_init_96 (by decide) (fun c96 => ?_) (fun c96 => ?_)
    · exact absurd c96 (by decide)
    · refine v_aload_n (pc := 99) dX11_init_99 rfl rfl ?_
      refine v_getH (pc := 100) fg_X11_37_11 dX11_init_100 h0 r38 ?_
      refine v_iload_n (pc := 103) dX11_init_103 rfl rfl ?_
      refine v_new (pc := 104) nw_X11_35 dX11_init_104 (by omega) (Nat.le_of_ble_eq_true rfl) (Nat.le_of_ble_eq_true rfl) ?_
      refine v_dup (pc := 107) dX11_init_107 rfl ?_
      refine v_cv (pc := 108) (v_rIN (c_X5_init G l (t := K.1) v_is_new (by show K.1 + 1 < 900000; omega)) rfl kIN_X11_55 ⟨Nat.le_of_ble_eq_true rfl, Nat.le_of_ble_eq_true rfl⟩ ⟨Nat.le_of_ble_eq_true rfl, Nat.le_of_ble_eq_true rfl⟩ dX11_init_108 (Nat.le_of_ble_eq_true rfl)) (fun M108 h108 => ?_)
      subst h108
      refine v_aastore (pc := 111) (t0 := 5) dX11_init_111 (v_is_old (v_is_old h38)) (Or.inr rfl) rfl (vp_in_nI (by decide) (by decide)) (v_is_old v_is_new) (by decide) rfl (Or.inl rfl) ?_
      rw [nI_clamp (show 3 < 2 ^ 31 by decide)]
      refine v_iincN (pc := 112) (b := 1) dX11_init_112 rfl (by decide) (by decide) rfl ?_
      refine v_goto (pc := 115) (tgt := 93) dX11_init_115 (by decide) ?_
      exact k13 _ _ _ _ (v_is_old (v_is_old h0)) (by show K.1 + 2 = 51; omega) (v_is_old (v_is_old h38)) ((v_u_h (by decide)).trans ((v_u_h (show 0 ≠ K.1 by omega)).trans ((v_z_h (show 0 ≠ K.1 + 1 by omega)).trans ((v_z_h (show 0 ≠ K.1 by omega)).trans r38))))
  have k11 : ∀ (K : Nat × v_TY) (I : Nat → Nat → Int32) (J : Nat → Nat → Int64) (R : Nat → Nat → Option Nat), v_is K 0 11 0 → K.1 = 47 → v_is K 38 18 6 → R 0 8 = some 38 → v_V G l yX11_init cX11_init 2 none rm_X11_init (v_Qv G (fun (M' : v_MM) => M' = (nP 5 (nP 4 (nP 3 (nP 2 (K, I, J, R))))))) 46 809 93 [some (.ref 0), some (.int (nI 2))] [] (K, I, J, R) := by
    intro K I J R h0 hk h38 r38
    refine v_iload_n (pc := 93) dX11_init_93 rfl rfl ?_
    refine v_bipush (pc := 94) (v := nI 6) dX11_init_94 (by decide) ?_
    refine v_icmp_geN (pc := 96) (tgt := 118) ⟨by omega, by omega⟩ dX11_init_96 (by decide) (fun c96 => ?_) (fun c96 => ?_)
    · exact absurd c96 (by decide)
    · refine v_aload_n (pc := 99) dX11_init_99 rfl rfl ?_
      refine v_getH (pc := 100) fg_X11_37_11 dX11_init_100 h0 r38 ?_
      refine v_iload_n (pc := 103) dX11_init_103 rfl rfl ?_
      refine v_new (pc := 104) nw_X11_35 dX11_init_104 (by omega) (Nat.le_of_ble_eq_true rfl) (Nat.le_of_ble_eq_true rfl) ?_
      refine v_dup (pc := 107) dX11_init_107 rfl ?_
      refine v_cv (pc := 108) (v_rIN (c_X5_init G l (t := K.1) v_is_new (by show K.1 + 1 < 900000; omega)) rfl kIN_X11_55 ⟨Nat.le_of_ble_eq_true rfl, Nat.le_of_ble_eq_true rfl⟩ ⟨Nat.le_of_ble_eq_true rfl, Nat.le_of_ble_eq_true rfl⟩ dX11_init_108 (Nat.le_of_ble_eq_true rfl)) (fun M108 h108 => ?_)
      subst h108
      refine v_aastore (pc := 111) (t0 := 5) dX11_init_111 (v_is_old (v_is_old h38)) (Or.inr rfl) rfl (vp_in_nI (by decide) (by decide)) (v_is_old v_is_new) (by decide) rfl (Or.inl rfl) ?_
      rw [nI_clamp (show 2 < 2 ^ 31 by decide)]
      refine v_iincN (pc := 112) (b := 1) dX11_init_112 rfl (by decide) (by decide) rfl ?_
      refine v_goto (pc := 115) (tgt := 93) dX11_init_115 (by decide) ?_
      exact k12 _ _ _ _ (v_is_old (v_is_old h0)) (by show K.1 + 2 = 49; omega) (v_is_old (v_is_old h38)) ((v_u_h (by decide)).trans ((v_u_h (show 0 ≠ K.1 by omega)).trans ((v_z_h (show 0 ≠ K.1 + 1 by omega)).trans ((v_z_h (show 0 ≠ K.1 by omega)).trans r38))))
  have k10 : ∀ (K : Nat × v_TY) (I : Nat → Nat → Int32) (J : Nat → Nat → Int64) (R : Nat → Nat → Option Nat), v_is K 0 11 0 → K.1 = 45 → v_is K 38 18 6 → R 0 8 = some 38 → v_V G l yX11_init cX11_init 2 none rm_X11_init (v_Qv G (fun (M' : v_MM) => M' = (nP 5 (nP 4 (nP 3 (nP 2 (nP 1 (K, I, J, R)))))))) 44 746 93 [some (.ref 0), some (.int (nI 1))] [] (K, I, J, R) := by
    intro K I J R h0 hk h38 r38
    refine v_iload_n (pc := 93) dX11_init_93 rfl rfl ?_
    refine v_bipush (pc := 94) (v := nI 6) dX11_init_94 (by decide) ?_
    refine v_icmp_geN (pc := 96) (tgt := 118) ⟨by omega, by omega⟩ dX11_init_96 (by decide) (fun c96 => ?_) (fun c96 => ?_)
    · exact absurd c96 (by decide)
    · refine v_aload_n (pc := 99) dX11_init_99 rfl rfl ?_
      refine v_getH (pc := 100) fg_X11_37_11 dX11_init_100 h0 r38 ?_
      refine v_iload_n (pc := 103) dX11_init_103 rfl rfl ?_
      refine v_new (pc := 104) nw_X11_35 dX11_init_104 (by omega) (Nat.le_of_ble_eq_true rfl) (Nat.le_of_ble_eq_true rfl) ?_
      refine v_dup (pc := 107) dX11_init_107 rfl ?_
      refine v_cv (pc := 108) (v_rIN (c_X5_init G l (t := K.1) v_is_new (by show K.1 + 1 < 900000; omega)) rfl kIN_X11_55 ⟨Nat.le_of_ble_eq_true rfl, Nat.le_of_ble_eq_true rfl⟩ ⟨Nat.le_of_ble_eq_true rfl, Nat.le_of_ble_eq_true rfl⟩ dX11_init_108 (Nat.le_of_ble_eq_true rfl)) (fun M108 h108 => ?_)
      subst h108
      refine v_aastore (pc := 111) (t0 := 5) dX11_init_111 (v_is_old (v_is_old h38)) (Or.inr rfl) rfl (vp_in_nI (by decide) (by decide)) (v_is_old v_is_new) (by decide) rfl (Or.inl rfl) ?_
      rw [nI_clamp (show 1 < 2 ^ 31 by decide)]
      refine v_iincN (pc := 112) (b := 1) dX11_init_112 rfl (by decide) (by decide) rfl ?_
      refine v_goto (pc := 115) (tgt := 93) dX11_init_115 (by decide) ?_
      exact k11 _ _ _ _ (v_is_old (v_is_old h0)) (by show K.1 + 2 = 47; omega) (v_is_old (v_is_old h38)) ((v_u_h (by decide)).trans ((v_u_h (show 0 ≠ K.1 by omega)).trans ((v_z_h (show 0 ≠ K.1 + 1 by omega)).trans ((v_z_h (show 0 ≠ K.1 by omega)).trans r38))))
  have k9 : ∀ (K : Nat × v_TY) (I : Nat → Nat → Int32) (J : Nat → Nat → Int64) (R : Nat → Nat → Option Nat), v_is K 0 11 0 → K.1 = 43 → v_is K 38 18 6 → R 0 8 = some 38 → v_V G l yX11_init cX11_init 2 none rm_X11_init (v_Qv G (fun (M' : v_MM) => M' = (nP 5 (nP 4 (nP 3 (nP 2 (nP 1 (nP 0 (K, I, J, R))))))))) 42 683 93 [some (.ref 0), some (.int (nI 0))] [] (K, I, J, R) := by
    intro K I J R h0 hk h38 r38
    refine v_iload_n (pc := 93) dX11_init_93 rfl rfl ?_
    refine v_bipush (pc := 94) (v := nI 6) dX11_init_94 (by decide) ?_
    refine v_icmp_geN (pc := 96) (tgt := 118) ⟨by omega, by omega⟩ dX11_init_96 (by decide) (fun c96 => ?_) (fun c96 => ?_)
    · exact absurd c96 (by decide)
    · refine v_aload_n (pc := 99) dX11_init_99 rfl rfl ?_
      refine v_getH (pc := 100) fg_X11_37_11 dX11_init_100 h0 r38 ?_
      refine v_iload_n (pc := 103) dX11_init_103 rfl rfl ?_
      refine v_new (pc := 104) nw_X11_35 dX11_init_104 (by omega) (Nat.le_of_ble_eq_true rfl) (Nat.le_of_ble_eq_true rfl) ?_
      refine v_dup (pc := 107) dX11_init_107 rfl ?_
      refine v_cv (pc := 108) (v_rIN (c_X5_init G l (t := K.1) v_is_new (by show K.1 + 1 < 900000; omega)) rfl kIN_X11_55 ⟨Nat.le_of_ble_eq_true rfl, Nat.le_of_ble_eq_true rfl⟩ ⟨Nat.le_of_ble_eq_true rfl, Nat.le_of_ble_eq_true rfl⟩ dX11_init_108 (Nat.le_of_ble_eq_true rfl)) (fun M108 h108 => ?_)
      subst h108
      refine v_aastore (pc := 111) (t0 := 5) dX11_init_111 (v_is_old (v_is_old h38)) (Or.inr rfl) rfl (vp_in_nI (by decide) (by decide)) (v_is_old v_is_new) (by decide) rfl (Or.inl rfl) ?_
      rw [nI_clamp (show 0 < 2 ^ 31 by decide)]
      refine v_iincN (pc := 112) (b := 1) dX11_init_112 rfl (by decide) (by decide) rfl ?_
      refine v_goto (pc := 115) (tgt := 93) dX11_init_115 (by decide) ?_
      exact k10 _ _ _ _ (v_is_old (v_is_old h0)) (by show K.1 + 2 = 45; omega) (v_is_old (v_is_old h38)) ((v_u_h (by decide)).trans ((v_u_h (show 0 ≠ K.1 by omega)).trans ((v_z_h (show 0 ≠ K.1 + 1 by omega)).trans ((v_z_h (show 0 ≠ K.1 by omega)).trans r38))))
  have k8 : ∀ (K : Nat × v_TY) (I : Nat → Nat → Int32) (J : Nat → Nat → Int64) (R : Nat → Nat → Option Nat), v_is K 0 11 0 → K.1 = 42 → v_is K 38 18 6 → R 0 8 = some 38 → v_V G l yX11_init cX11_init 2 none rm_X11_init (v_Qv G (fun (M' : v_MM) => M' = (nP 5 (nP 4 (nP 3 (nP 2 (nP 1 (nP 0 (nA 14 4 11 (K, I, J, R)))))))))) 41 679 84 [some (.ref 0), none] [] (K, I, J, R) := by
    intro K I J R h0 hk h38 r38
    refine v_aload_n (pc := 84) dX11_init_84 rfl rfl ?_
    refine v_iconst (pc := 85) (v := nI 4) dX11_init_85 (by decide) ?_
    refine v_newa_int (pc := 86) ac_int dX11_init_86 (t_nn (by decide)) (nI_clamp (by decide)) (by decide) (by omega) (Nat.le_of_ble_eq_true rfl) (Nat.le_of_ble_eq_true rfl) ?_
    refine v_putH (pc := 88) pg_X11_52_11 (fun _ => rfl) dX11_init_88 (v_is_old h0) (fun _ => rfl) rfl ?_
    refine v_iconst (pc := 91) (v := nI 0) dX11_init_91 (by decide) ?_
    refine v_istore_n (pc := 92) dX11_init_92 rfl (by decide) rfl ?_
    exact k9 _ _ _ _ (v_is_old h0) (by show K.1 + 1 = 43; omega) (v_is_old h38) ((v_u_k (by decide)).trans ((v_z_h (show 0 ≠ K.1 by omega)).trans r38))
  have k7 : ∀ (K : Nat × v_TY) (I : Nat → Nat → Int32) (J : Nat → Nat → Int64) (R : Nat → Nat → Option Nat), v_is K 0 11 0 → K.1 = 41 → v_is K 38 18 6 → R 0 8 = some 38 → v_V G l yX11_init cX11_init 2 none rm_X11_init (v_Qv G (fun (M' : v_MM) => M' = (nP 5 (nP 4 (nP 3 (nP 2 (nP 1 (nP 0 (nA 14 4 11 (nA 14 15 10 (K, I, J, R))))))))))) 40 664 76 [some (.ref 0), none] [] (K, I, J, R) := by
    intro K I J R h0 hk h38 r38
    refine v_aload_n (pc := 76) dX11_init_76 rfl rfl ?_
    refine v_bipush (pc := 77) (v := nI 15) dX11_init_77 (by decide) ?_
    refine v_newa_int (pc := 79) ac_int dX11_init_79 (t_nn (by decide)) (nI_clamp (by decide)) (by decide) (by omega) (Nat.le_of_ble_eq_true rfl) (Nat.le_of_ble_eq_true rfl) ?_
    refine v_putH (pc := 81) pg_X11_48_11 (fun _ => rfl) dX11_init_81 (v_is_old h0) (fun _ => rfl) rfl ?_
    exact k8 _ _ _ _ (v_is_old h0) (by show K.1 + 1 = 42; omega) (v_is_old h38) ((v_u_k (by decide)).trans ((v_z_h (show 0 ≠ K.1 by omega)).trans r38))
  have k6 : ∀ (K : Nat × v_TY) (I : Nat → Nat → Int32) (J : Nat → Nat → Int64) (R : Nat → Nat → Option Nat), v_is K 0 11 0 → K.1 = 39 → v_is K 38 18 6 → R 0 8 = some 38 → v_V G l yX11_init cX11_init 2 none rm_X11_init (v_Qv G (fun (M' : v_MM) => M' = (nP 5 (nP 4 (nP 3 (nP 2 (nP 1 (nP 0 (nA 14 4 11 (nA 14 15 10 (nR 9 (K, I, J, R)))))))))))) 38 642 65 [some (.ref 0), none] [] (K, I, J, R) := by
    intro K I J R h0 hk h38 r38
    refine v_aload_n (pc := 65) dX11_init_65 rfl rfl ?_
    refine v_new (pc := 66) nw_X11_41 dX11_init_66 (by omega) (Nat.le_of_ble_eq_true rfl) (Nat.le_of_ble_eq_true rfl) ?_
    refine v_dup (pc := 69) dX11_init_69 rfl ?_
    refine v_cv (pc := 70) (v_rIN (c_X8_init G l (t := K.1) v_is_new (by show K.1 + 1 < 900000; omega)) rfl kIN_X11_43 ⟨Nat.le_of_ble_eq_true rfl, Nat.le_of_ble_eq_true rfl⟩ ⟨Nat.le_of_ble_eq_true rfl, Nat.le_of_ble_eq_true rfl⟩ dX11_init_70 (Nat.le_of_ble_eq_true rfl)) (fun M70 h70 => ?_)
    subst h70
    refine v_putH (pc := 73) pg_X11_44_11 (fun _ => rfl) dX11_init_73 (v_is_old (v_is_old h0)) (fun _ => rfl) rfl ?_
    exact k7 _ _ _ _ (v_is_old (v_is_old h0)) (by show K.1 + 2 = 41; omega) (v_is_old (v_is_old h38)) ((v_u_k (by decide)).trans ((v_u_h (show 0 ≠ K.1 by omega)).trans ((v_z_h (show 0 ≠ K.1 + 1 by omega)).trans ((v_z_h (show 0 ≠ K.1 by omega)).trans r38))))
  have k5 : ∀ (K : Nat × v_TY) (I : Nat → Nat → Int32) (J : Nat → Nat → Int64) (R : Nat → Nat → Option Nat), v_is K 0 11 0 → K.1 = 38 → v_V G l yX11_init cX11_init 2 none rm_X11_init (v_Qv G (fun (M' : v_MM) => M' = (nP 5 (nP 4 (nP 3 (nP 2 (nP 1 (nP 0 (nA 14 4 11 (nA 14 15 10 (nR 9 (nA 18 6 8 (K, I, J, R))))))))))))) 37 636 56 [some (.ref 0), none] [] (K, I, J, R) := by
    intro K I J R h0 hk
    refine v_aload_n (pc := 56) dX11_init_56 rfl rfl ?_
    refine v_bipush (pc := 57) (v := nI 6) dX11_init_57 (by decide) ?_
    refine v_newq (pc := 59) (Or.inr ⟨rfl, rfl⟩) cl_X11_35 aoT dX11_init_59 (t_nn (by decide)) (nI_clamp (by decide)) (by decide) (by omega) (Nat.le_of_ble_eq_true rfl) (Nat.le_of_ble_eq_true rfl) ?_
    refine v_putH (pc := 62) pg_X11_37_11 (fun _ => rfl) dX11_init_62 (v_is_old h0) (fun _ => rfl) rfl ?_
    exact k6 _ _ _ _ (v_is_old h0) (by show K.1 + 1 = 39; omega) (by have := @v_is_new K 18 6; rw [hk] at this; exact this) (by rw [v_u_same, hk])
  have k4 : ∀ (K : Nat × v_TY) (I : Nat → Nat → Int32) (J : Nat → Nat → Int64) (R : Nat → Nat → Option Nat), v_is K 0 11 0 → K.1 = 37 → v_V G l yX11_init cX11_init 2 none rm_X11_init (v_Qv G (fun (M' : v_MM) => M' = (nP 5 (nP 4 (nP 3 (nP 2 (nP 1 (nP 0 (nA 14 4 11 (nA 14 15 10 (nR 9 (nA 18 6 8 (nA 13 100 6 (K, I, J, R)))))))))))))) 36 536 48 [some (.ref 0), none] [] (K, I, J, R) := by
    intro K I J R h0 hk
    refine v_aload_n (pc := 48) dX11_init_48 rfl rfl ?_
    refine v_bipush (pc := 49) (v := nI 100) dX11_init_49 (by decide) ?_
    refine v_newa_byte (pc := 51) ac_byte dX11_init_51 (t_nn (by decide)) (nI_clamp (by decide)) (by decide) (by omega) (Nat.le_of_ble_eq_true rfl) (Nat.le_of_ble_eq_true rfl) ?_
    refine v_putH (pc := 53) pg_X11_31_11 (fun _ => rfl) dX11_init_53 (v_is_old h0) (fun _ => rfl) rfl ?_
    exact k5 _ _ _ _ (v_is_old h0) (by show K.1 + 1 = 38; omega)
  have k3 : ∀ (K : Nat × v_TY) (I : Nat → Nat → Int32) (J : Nat → Nat → Int64) (R : Nat → Nat → Option Nat), v_is K 0 11 0 → K.1 = 31 → v_V G l yX11_init cX11_init 2 none rm_X11_init (v_Qv G (fun (M' : v_MM) => M' = (nP 5 (nP 4 (nP 3 (nP 2 (nP 1 (nP 0 (nA 14 4 11 (nA 14 15 10 (nR 9 (nA 18 6 8 (nA 13 100 6 (nT 4 (K, I, J, R))))))))))))))) 30 297 37 [some (.ref 0), none] [] (K, I, J, R) := by
    intro K I J R h0 hk
    refine v_aload_n (pc := 37) dX11_init_37 rfl rfl ?_
    refine v_new (pc := 38) nw_X11_24 dX11_init_38 (by omega) (Nat.le_of_ble_eq_true rfl) (Nat.le_of_ble_eq_true rfl) ?_
    refine v_dup (pc := 41) dX11_init_41 rfl ?_
    refine v_cv (pc := 42) (v_rIN (c_X7_init G l (t := K.1) v_is_new (by show K.1 + 1 < 900000; omega)) rfl kIN_X11_26 ⟨Nat.le_of_ble_eq_true rfl, Nat.le_of_ble_eq_true rfl⟩ ⟨Nat.le_of_ble_eq_true rfl, Nat.le_of_ble_eq_true rfl⟩ dX11_init_42 (Nat.le_of_ble_eq_true rfl)) (fun M42 h42 => ?_)
    subst h42
    refine v_putH (pc := 45) pg_X11_27_11 (fun h => by cases h) dX11_init_45 ((kt_u _).2 _ _ _ (v_is_old h0)) (fun _ => rfl) rfl ?_
    exact k4 _ _ _ _ ((kt_u _).2 _ _ _ (v_is_old h0)) (by show K.1 + 6 = 37; omega)
  have k2 : ∀ (K : Nat × v_TY) (I : Nat → Nat → Int32) (J : Nat → Nat → Int64) (R : Nat → Nat → Option Nat), v_is K 0 11 0 → K.1 = 21 → v_V G l yX11_init cX11_init 2 none rm_X11_init (v_Qv G (fun (M' : v_MM) => M' = (nP 5 (nP 4 (nP 3 (nP 2 (nP 1 (nP 0 (nA 14 4 11 (nA 14 15 10 (nR 9 (nA 18 6 8 (nA 13 100 6 (nT 4 (nV 2 (K, I, J, R)))))))))))))))) 20 198 26 [some (.ref 0), none] [] (K, I, J, R) := by
    intro K I J R h0 hk
    refine v_aload_n (pc := 26) dX11_init_26 rfl rfl ?_
    refine v_new (pc := 27) nw_X11_9 dX11_init_27 (by omega) (Nat.le_of_ble_eq_true rfl) (Nat.le_of_ble_eq_true rfl) ?_
    refine v_dup (pc := 30) dX11_init_30 rfl ?_
    refine v_cv (pc := 31) (v_rIN (c_X9_init G l (t := K.1) v_is_new (by show K.1 + 1 < 900000; omega)) rfl kIN_X11_11 ⟨Nat.le_of_ble_eq_true rfl, Nat.le_of_ble_eq_true rfl⟩ ⟨Nat.le_of_ble_eq_true rfl, Nat.le_of_ble_eq_true rfl⟩ dX11_init_31 (Nat.le_of_ble_eq_true rfl)) (fun M31 h31 => ?_)
    subst h31
    refine v_putH (pc := 34) pg_X11_21_11 (fun _ => rfl) dX11_init_34 ((kv_u _).2 _ _ _ (v_is_old h0)) (fun _ => rfl) rfl ?_
    exact k3 _ _ _ _ ((kv_u _).2 _ _ _ (v_is_old h0)) (by show K.1 + 10 = 31; omega)
  have k1 : ∀ (K : Nat × v_TY) (I : Nat → Nat → Int32) (J : Nat → Nat → Int64) (R : Nat → Nat → Option Nat), v_is K 0 11 0 → K.1 = 11 → v_V G l yX11_init cX11_init 2 none rm_X11_init (v_Qv G (fun (M' : v_MM) => M' = (nP 5 (nP 4 (nP 3 (nP 2 (nP 1 (nP 0 (nA 14 4 11 (nA 14 15 10 (nR 9 (nA 18 6 8 (nA 13 100 6 (nT 4 (nV 2 (nV 1 (K, I, J, R))))))))))))))))) 10 99 15 [some (.ref 0), none] [] (K, I, J, R) := by
    intro K I J R h0 hk
    refine v_aload_n (pc := 15) dX11_init_15 rfl rfl ?_
    refine v_new (pc := 16) nw_X11_9 dX11_init_16 (by omega) (Nat.le_of_ble_eq_true rfl) (Nat.le_of_ble_eq_true rfl) ?_
    refine v_dup (pc := 19) dX11_init_19 rfl ?_
    refine v_cv (pc := 20) (v_rIN (c_X9_init G l (t := K.1) v_is_new (by show K.1 + 1 < 900000; omega)) rfl kIN_X11_11 ⟨Nat.le_of_ble_eq_true rfl, Nat.le_of_ble_eq_true rfl⟩ ⟨Nat.le_of_ble_eq_true rfl, Nat.le_of_ble_eq_true rfl⟩ dX11_init_20 (Nat.le_of_ble_eq_true rfl)) (fun M20 h20 => ?_)
    subst h20
    refine v_putH (pc := 23) pg_X11_18_11 (fun _ => rfl) dX11_init_23 ((kv_u _).2 _ _ _ (v_is_old h0)) (fun _ => rfl) rfl ?_
    exact k2 _ _ _ _ ((kv_u _).2 _ _ _ (v_is_old h0)) (by show K.1 + 10 = 21; omega)
  have k0 : ∀ (K : Nat × v_TY) (I : Nat → Nat → Int32) (J : Nat → Nat → Int64) (R : Nat → Nat → Option Nat), v_is K 0 11 0 → K.1 = 1 → v_V G l yX11_init cX11_init 2 none rm_X11_init (v_Qv G (fun (M' : v_MM) => M' = (nP 5 (nP 4 (nP 3 (nP 2 (nP 1 (nP 0 (nA 14 4 11 (nA 14 15 10 (nR 9 (nA 18 6 8 (nA 13 100 6 (nT 4 (nV 2 (nV 1 (nV 0 (K, I, J, R)))))))))))))))))) 0 0 4 [some (.ref 0), none] [] (K, I, J, R) := by
    intro K I J R h0 hk
    refine v_aload_n (pc := 4) dX11_init_4 rfl rfl ?_
    refine v_new (pc := 5) nw_X11_9 dX11_init_5 (by omega) (Nat.le_of_ble_eq_true rfl) (Nat.le_of_ble_eq_true rfl) ?_
    refine v_dup (pc := 8) dX11_init_8 rfl ?_
    refine v_cv (pc := 9) (v_rIN (c_X9_init G l (t := K.1) v_is_new (by show K.1 + 1 < 900000; omega)) rfl kIN_X11_11 ⟨Nat.le_of_ble_eq_true rfl, Nat.le_of_ble_eq_true rfl⟩ ⟨Nat.le_of_ble_eq_true rfl, Nat.le_of_ble_eq_true rfl⟩ dX11_init_9 (Nat.le_of_ble_eq_true rfl)) (fun M9 h9 => ?_)
    subst h9
    refine v_putH (pc := 12) pg_X11_12_11 (fun _ => rfl) dX11_init_12 ((kv_u _).2 _ _ _ (v_is_old h0)) (fun _ => rfl) rfl ?_
    exact k1 _ _ _ _ ((kv_u _).2 _ _ _ (v_is_old h0)) (by show K.1 + 10 = 11; omega)
  exact k0 _ _ _ _ h0 hk
