/-! THE CLASS reads: words and numbers -/
def RS {α : Type} (I : Nat → Nat → Int32) (t : Nat) (T : List Nat) (ks : List Nat) (pr : Nat × Option α) (f : α → List Nat) (x : Int32) (I' : Nat → Nat → Int32) : Prop := kS t I I' ∧ ((pr.2 = none ∧ x = nI 0 ∧ I' t 0 = nI pr.1) ∨ ∃ a, pr.2 = some a ∧ x = nI 1 ∧ CP7 I' t T pr.1 (ks ++ f a))
def p_x (o : Option Nat) : Int32 := match o with
  | some n => nI n
  | none => -1
def w_s : Nat → List Nat
  | 0 => 119 :: t_l 0
  | 1 => 109 :: t_l 1
  | _ => 98 :: t_l 2
theorem t_ix3' : ∀ c, c < 201 → (t_ix 3 c = nI 0 ∧ c = 119) ∨ (t_ix 3 c = nI 1 ∧ c = 109) ∨ (t_ix 3 c = nI 2 ∧ c = 98) ∨ (t_ix 3 c = -1 ∧ c ≠ 119 ∧ c ≠ 109 ∧ c ≠ 98) := by decide +kernel
theorem nn_i {n : Nat} (h : n < 1000) : ¬ nI n < 0 := t_nn (by omega)
abbrev rm_X7_takenNumber : Room := { frames := 5, cells := 0, slots := 0, locals := 113 }
set_option maxRecDepth 20000 in
theorem c_X7_takenNumber (G : v_G) (l : Launch) {K : Nat × v_TY} {I : Nat → Nat → Int32} {J : Nat → Nat → Int64} {R : Nat → Nat → Option Nat} {t : Nat} {T : List Nat} {i : Nat} {ks : List Nat} (hT : TH K R t) (hP : CP7 I t T i ks) : v_M G l yX7_takenNumber cX7_takenNumber 3 (some .int) rm_X7_takenNumber [.ref t] (K, I, J, R) (v_Qi G (fun (x : Int32) (M' : v_MM) => x = p_x (p_num T i).2 ∧ ∃ I', M' = (K, I', J, R) ∧ kS t I I' ∧ CP7 I' t T (p_num T i).1 ks)) := by
  refine v_of [some (.ref t), none, none] (by decide) (Nat.le_of_ble_eq_true rfl) (Nat.le_of_ble_eq_true rfl) rfl ?_
  refine v_aload_n (pc := 0) dX7_takenNumber_0 rfl rfl ?_
  refine v_ldcS (pc := 1) (i := 4) (tx := "0123456789") (List.mem_of_getElem? (i := 6) rfl) dX7_takenNumber_1 ?_
  refine v_ci (pc := 3) (v_rV (c_X7_takenOneOf G l hT hP (u := 4) (by decide)) rfl kV_X7_67 (v_rcO hT.1 rfl (by decide)) ⟨Nat.le_of_ble_eq_true rfl, Nat.le_of_ble_eq_true rfl⟩ ⟨Nat.le_of_ble_eq_true rfl, Nat.le_of_ble_eq_true rfl⟩ dX7_takenNumber_3 (Nat.le_of_ble_eq_true rfl)) (fun x3 M3 h3 => ?_)
  obtain ⟨rfl, I3, rfl, s3, g3, n3⟩ := h3
  have hx := CP7_tx hP i
  rw [t_ix4 _ hx] at g3 n3 ⊢
  by_cases d1 : dg (tx T i) = true
  · rw [if_pos d1] at g3 n3 ⊢
    have d1b := p_num_dg d1
    have hP3 := n3 (nn_i (by omega))
    refine v_istore_n (pc := 6) dX7_takenNumber_6 rfl (by decide) rfl ?_
    refine v_iload_n (pc := 7) dX7_takenNumber_7 rfl rfl ?_
    refine v_if_geN (pc := 8) (tgt := 13) (by omega) dX7_takenNumber_8 (by decide) ?_
    refine v_aload_n (pc := 13) dX7_takenNumber_13 rfl rfl ?_
    refine v_ldcS (pc := 14) (i := 4) (tx := "0123456789") (List.mem_of_getElem? (i := 6) rfl) dX7_takenNumber_14 ?_
    refine v_ci (pc := 16) (v_rV (c_X7_takenOneOf G l hT hP3 (u := 4) (by decide)) rfl kV_X7_67 (v_rcO hT.1 rfl (by decide)) ⟨Nat.le_of_ble_eq_true rfl, Nat.le_of_ble_eq_true rfl⟩ ⟨Nat.le_of_ble_eq_true rfl, Nat.le_of_ble_eq_true rfl⟩ dX7_takenNumber_16 (Nat.le_of_ble_eq_true rfl)) (fun x16 M16 h16 => ?_)
    obtain ⟨rfl, I16, rfl, s16, g16, n16⟩ := h16
    have hx2 := CP7_tx hP3 (i + 1)
    rw [t_ix4 _ hx2] at g16 n16 ⊢
    by_cases d2 : dg (tx T (i + 1)) = true
    · rw [if_pos d2] at g16 n16 ⊢
      have d2b := p_num_dg d2
      have hP16 := n16 (nn_i (by omega))
      have e : p_num T i = (i + 2, some (10 * (tx T i - 48) + (tx T (i + 1) - 48))) := by unfold p_num; rw [if_pos d1, if_pos d2]
      refine v_istore_n (pc := 19) dX7_takenNumber_19 rfl (by decide) rfl ?_
      refine v_iload_n (pc := 20) dX7_takenNumber_20 rfl rfl ?_
      refine v_if_geN (pc := 21) (tgt := 28) (by omega) dX7_takenNumber_21 (by decide) ?_
      refine v_iload_n (pc := 28) dX7_takenNumber_28 rfl rfl ?_
      refine v_bipush (pc := 29) (v := nI 10) dX7_takenNumber_29 (by decide) ?_
      refine v_imulN (pc := 31) dX7_takenNumber_31 ?_
      refine v_iload_n (pc := 32) dX7_takenNumber_32 rfl rfl ?_
      refine v_iaddN (pc := 33) dX7_takenNumber_33 ?_
      exact v_iret (pc := 34) dX7_takenNumber_34 rfl rfl (Nat.le_of_ble_eq_true rfl) (Nat.le_of_ble_eq_true rfl) ⟨by rw [e]; show _ = nI _; rw [Nat.mul_comm 10], _, rfl, kS_tr s3 s16, by rw [e]; exact hP16⟩
    · rw [if_neg d2] at g16 n16 ⊢
      have e : p_num T i = (i + 1, some (tx T i - 48)) := by unfold p_num; rw [if_pos d1, if_neg d2]
      refine v_istore_n (pc := 19) dX7_takenNumber_19 rfl (by decide) rfl ?_
      refine v_iload_n (pc := 20) dX7_takenNumber_20 rfl rfl ?_
      refine v_if_ge (pc := 21) (tgt := 28) dX7_takenNumber_21 (by decide) (fun c21 => ?_) (fun c21 => ?_)
      · exact absurd c21 (by decide)
      · refine v_iload_n (pc := 24) dX7_takenNumber_24 rfl rfl ?_
        refine v_goto (pc := 25) (tgt := 34) dX7_takenNumber_25 (by decide) ?_
        exact v_iret (pc := 34) dX7_takenNumber_34 rfl rfl (Nat.le_of_ble_eq_true rfl) (Nat.le_of_ble_eq_true rfl) ⟨by rw [e]; rfl, _, rfl, kS_tr s3 s16, by rw [e]; exact g16 (by decide)⟩
  · rw [if_neg d1] at g3 n3 ⊢
    have e : p_num T i = (i, none) := by unfold p_num; rw [if_neg d1]
    refine v_istore_n (pc := 6) dX7_takenNumber_6 rfl (by decide) rfl ?_
    refine v_iload_n (pc := 7) dX7_takenNumber_7 rfl rfl ?_
    refine v_if_ge (pc := 8) (tgt := 13) dX7_takenNumber_8 (by decide) (fun c8 => ?_) (fun c8 => ?_)
    · exact absurd c8 (by decide)
    · refine v_iconst (pc := 11) (v := -1) dX7_takenNumber_11 (by decide) ?_
      exact v_iret (pc := 12) dX7_takenNumber_12 rfl rfl (Nat.le_of_ble_eq_true rfl) (Nat.le_of_ble_eq_true rfl) ⟨by rw [e]; rfl, _, rfl, s3, by rw [e]; exact g3 (by decide)⟩
abbrev rm_X7_takesAll : Room := { frames := 6, cells := 0, slots := 0, locals := 143 }
set_option maxRecDepth 20000 in
theorem c_X7_takesAll (G : v_G) (l : Launch) {K : Nat × v_TY} {I : Nat → Nat → Int32} {J : Nat → Nat → Int64} {R : Nat → Nat → Option Nat} {t : Nat} {T : List Nat} {i : Nat} {ks : List Nat} (hT : TH K R t) (hP : CP7 I t T i ks) {u : Nat} (hi : u < 7) : v_M G l yX7_takesAll cX7_takesAll 3 (some .boolean) rm_X7_takesAll [.ref t, .ref (1000000 + (10 + u))] (K, I, J, R) (v_Qi G (fun (x : Int32) (M' : v_MM) => ∃ I', M' = (K, I', J, R) ∧ RS I t T ks (p_str T (t_l u) i) (fun _ => []) x I')) := by
  refine v_of [some (.ref t), some (.ref (1000000 + (10 + u))), none] (by decide) (Nat.le_of_ble_eq_true rfl) (Nat.le_of_ble_eq_true rfl) rfl ?_
  have h10 := t_n_lt hi
  refine v_iconst (pc := 0) (v := nI 0) dX7_takesAll_0 (by decide) ?_
  refine v_istore_n (pc := 1) dX7_takesAll_1 rfl (by decide) rfl ?_
  have key : ∀ j, j ≤ t_n u → ∀ (Ij : Nat → Nat → Int32) (q : Nat), CP7 Ij t T q ks → kS t I Ij → p_str T ((t_l u).drop j) q = p_str T (t_l u) i → v_V G l yX7_takesAll cX7_takesAll 3 (some .boolean) rm_X7_takesAll (v_Qi G (fun (x : Int32) (M' : v_MM) => ∃ I', M' = (K, I', J, R) ∧ RS I t T ks (p_str T (t_l u) i) (fun _ => []) x I')) 0 0 2 [some (.ref t), some (.ref (1000000 + (10 + u))), some (.int (nI j))] [] (K, Ij, J, R) := by
    refine v_down (t_n u) (fun j hj ih => ?_)
    intro Ij q hQ hk he
    refine v_iload_n (pc := 2) dX7_takesAll_2 rfl rfl ?_
    refine v_aload_n (pc := 3) dX7_takesAll_3 rfl rfl ?_
    refine v_ci (pc := 4) (v_rV (c_J0_length_8abf5 G l hi) rfl kV_X7_81 (v_rcT hi) ⟨Nat.le_of_ble_eq_true rfl, Nat.le_of_ble_eq_true rfl⟩ ⟨Nat.le_of_ble_eq_true rfl, Nat.le_of_ble_eq_true rfl⟩ dX7_takesAll_4 (Nat.le_of_ble_eq_true rfl)) (fun x4 M4 h4 => ?_)
    obtain ⟨rfl, rfl⟩ := h4
    refine v_icmp_geN (pc := 7) (tgt := 30) ⟨by omega, by omega⟩ dX7_takesAll_7 (by decide) (fun c7 => ?_) (fun c7 => ?_)
    · have he2 : p_str T (t_l u) i = (q, some 0) := by rw [← he, show j = t_n u by omega, t_l0 u hi]; rfl
      refine v_iconst (pc := 30) (v := nI 1) dX7_takesAll_30 (by decide) ?_
      exact v_iret (pc := 31) dX7_takesAll_31 rfl rfl (Nat.le_of_ble_eq_true rfl) (Nat.le_of_ble_eq_true rfl) (by first | exact ⟨I16, rfl, kS_tr hk s16, Or.inl ⟨by rw [he2], rfl, by rw [he2]; exact (n16 c19).2.1.1⟩⟩ | exact ⟨Ij, rfl, hk, Or.inr ⟨0, by rw [he2], rfl, by rw [he2, List.append_nil]; exact hQ⟩⟩)
    · have b := t_bl u hi j (by omega) (by omega)
      have d := t_ld u hi j (by omega) (by omega)
      refine v_aload_n (pc := 10) dX7_takesAll_10 rfl rfl ?_
      refine v_aload_n (pc := 11) dX7_takesAll_11 rfl rfl ?_
      refine v_iload_n (pc := 12) dX7_takesAll_12 rfl rfl ?_
      refine v_ci (pc := 13) (v_rV (c_J0_charAt_5068e G l hi (j := j) (by omega)) rfl kV_X7_85 (v_rcT hi) ⟨Nat.le_of_ble_eq_true rfl, Nat.le_of_ble_eq_true rfl⟩ ⟨Nat.le_of_ble_eq_true rfl, Nat.le_of_ble_eq_true rfl⟩ dX7_takesAll_13 (Nat.le_of_ble_eq_true rfl)) (fun x13 M13 h13 => ?_)
      obtain ⟨rfl, rfl⟩ := h13
      refine v_top b.1 ?_
      refine v_ci (pc := 16) (v_rV (c_X7_takes G l hT hQ (c := (t_l u).getD j 0) b.2) rfl kV_X7_47 (v_rcO hT.1 rfl (by decide)) ⟨Nat.le_of_ble_eq_true rfl, Nat.le_of_ble_eq_true rfl⟩ ⟨Nat.le_of_ble_eq_true rfl, Nat.le_of_ble_eq_true rfl⟩ dX7_takesAll_16 (Nat.le_of_ble_eq_true rfl)) (fun x16 M16 h16 => ?_)
      obtain ⟨rfl, I16, rfl, s16, g16, n16⟩ := h16
      refine v_if_neP (pc := 19) (tgt := 24) dX7_takesAll_19 (by decide) (fun c19 => ?_) (fun c19 => ?_)
      · refine v_iincN (pc := 24) (b := 1) dX7_takesAll_24 rfl (by decide) (by decide) rfl ?_
        refine v_goto (pc := 27) (tgt := 2) dX7_takesAll_27 (by decide) ?_
        exact ih (j + 1) (by omega) (by omega) I16 (q + 1) (g16 c19) (kS_tr hk s16) (by rw [← he, d]; exact (if_pos c19).symm)
      · have he2 : p_str T (t_l u) i = (q, none) := by rw [← he, d]; exact if_neg c19
        refine v_iconst (pc := 22) (v := nI 0) dX7_takesAll_22 (by decide) ?_
        exact v_iret (pc := 23) dX7_takesAll_23 rfl rfl (Nat.le_of_ble_eq_true rfl) (Nat.le_of_ble_eq_true rfl) (by first | exact ⟨I16, rfl, kS_tr hk s16, Or.inl ⟨by rw [he2], rfl, by rw [he2]; exact (n16 c19).2.1.1⟩⟩ | exact ⟨Ij, rfl, hk, Or.inr ⟨0, by rw [he2], rfl, by rw [he2, List.append_nil]; exact hQ⟩⟩)
  exact key 0 (Nat.zero_le _) I i hP kS_rf rfl
abbrev rm_X7_takenWord : Room := { frames := 7, cells := 0, slots := 0, locals := 165 }
set_option maxRecDepth 20000 in
theorem c_X7_takenWord (G : v_G) (l : Launch) {K : Nat × v_TY} {I : Nat → Nat → Int32} {J : Nat → Nat → Int64} {R : Nat → Nat → Option Nat} {t : Nat} {T : List Nat} {i : Nat} {ks : List Nat} (hT : TH K R t) (hP : CP7 I t T i ks) : v_M G l yX7_takenWord cX7_takenWord 2 (some .int) rm_X7_takenWord [.ref t] (K, I, J, R) (v_Qi G (fun (x : Int32) (M' : v_MM) => ∃ I', M' = (K, I', J, R) ∧ kS t I I' ∧ (((p_str T (w_s (p_wd T i)) i).2 = none ∧ x = -1 ∧ I' t 0 = nI (p_str T (w_s (p_wd T i)) i).1) ∨ ∃ a, (p_str T (w_s (p_wd T i)) i).2 = some a ∧ x = nI (p_wd T i) ∧ CP7 I' t T (p_str T (w_s (p_wd T i)) i).1 ks))) := by
  refine v_of [some (.ref t), none] (by decide) (Nat.le_of_ble_eq_true rfl) (Nat.le_of_ble_eq_true rfl) rfl ?_
  refine v_aload_n (pc := 0) dX7_takenWord_0 rfl rfl ?_
  refine v_ldcS (pc := 1) (i := 3) (tx := "wmb") (List.mem_of_getElem? (i := 2) rfl) dX7_takenWord_1 ?_
  refine v_ci (pc := 3) (v_rV (c_X7_takenOneOf G l hT hP (u := 3) (by decide)) rfl kV_X7_67 (v_rcO hT.1 rfl (by decide)) ⟨Nat.le_of_ble_eq_true rfl, Nat.le_of_ble_eq_true rfl⟩ ⟨Nat.le_of_ble_eq_true rfl, Nat.le_of_ble_eq_true rfl⟩ dX7_takenWord_3 (Nat.le_of_ble_eq_true rfl)) (fun x3 M3 h3 => ?_)
  obtain ⟨rfl, I3, rfl, s3, g3, n3⟩ := h3
  have hx := t_ix3' _ (CP7_tx hP i)
  refine v_istore_n (pc := 6) dX7_takenWord_6 rfl (by decide) rfl ?_
  refine v_iload_n (pc := 7) dX7_takenWord_7 rfl rfl ?_
  rcases hx with ⟨e, f⟩ | ⟨e, f⟩ | ⟨e, f⟩ | ⟨e, f⟩
  · rw [e]
    have hP3 := n3 (by rw [e]; exact nn_i (by decide))
    have e5 : p_wd T i = 0 := by unfold p_wd; simp [f]
    have eW : p_str T (w_s (p_wd T i)) i = p_str T (t_l 0) (i + 1) := by rw [e5]; exact if_pos f
    refine v_tableIn (pc := 8) (tgt := 36) dX7_takenWord_8 (by decide) (by decide) rfl (by decide) ?_
    refine v_aload_n (pc := 36) dX7_takenWord_36 rfl rfl ?_
    refine v_ldcS (pc := 37) (i := 0) (tx := "ant") (List.mem_of_getElem? (i := 3) rfl) dX7_takenWord_37 ?_
    refine v_ci (pc := 39) (v_rV (c_X7_takesAll G l hT hP3 (u := 0) (by decide)) rfl kV_X7_73 (v_rcO hT.1 rfl (by decide)) ⟨Nat.le_of_ble_eq_true rfl, Nat.le_of_ble_eq_true rfl⟩ ⟨Nat.le_of_ble_eq_true rfl, Nat.le_of_ble_eq_true rfl⟩ dX7_takenWord_39 (Nat.le_of_ble_eq_true rfl)) (fun x39 M39 h39 => ?_)
    skip
    obtain ⟨I39, rfl, s39, ⟨e1, rfl, e3⟩ | ⟨a, e1, rfl, e3⟩⟩ := h39
    · refine v_if_eqN (pc := 42) (tgt := 49) (by omega) dX7_takenWord_42 (by decide) (fun c42 => ?_) (fun c42 => ?_)
      · refine v_iconst (pc := 49) (v := -1) dX7_takenWord_49 (by decide) ?_
        exact v_iret (pc := 50) dX7_takenWord_50 rfl rfl (Nat.le_of_ble_eq_true rfl) (Nat.le_of_ble_eq_true rfl) ⟨_, rfl, kS_tr s3 s39, Or.inl ⟨by rw [eW]; exact e1, rfl, by rw [eW]; exact e3⟩⟩
      · exact absurd rfl c42
    · refine v_if_eqN (pc := 42) (tgt := 49) (by omega) dX7_takenWord_42 (by decide) (fun c42 => ?_) (fun c42 => ?_)
      · exact absurd c42 (by decide)
      · refine v_iload_n (pc := 45) dX7_takenWord_45 rfl rfl ?_
        refine v_goto (pc := 46) (tgt := 50) dX7_takenWord_46 (by decide) ?_
        exact v_iret (pc := 50) dX7_takenWord_50 rfl rfl (Nat.le_of_ble_eq_true rfl) (Nat.le_of_ble_eq_true rfl) ⟨_, rfl, kS_tr s3 s39, Or.inr ⟨a, by rw [eW]; exact e1, by rw [e5], by rw [eW]; rw [List.append_nil] at e3; exact e3⟩⟩
  · rw [e]
    have hP3 := n3 (by rw [e]; exact nn_i (by decide))
    have e5 : p_wd T i = 1 := by unfold p_wd; simp [f]
    have eW : p_str T (w_s (p_wd T i)) i = p_str T (t_l 1) (i + 1) := by rw [e5]; exact if_pos f
    refine v_tableIn (pc := 8) (tgt := 51) dX7_takenWord_8 (by decide) (by decide) rfl (by decide) ?_
    refine v_aload_n (pc := 51) dX7_takenWord_51 rfl rfl ?_
    refine v_ldcS (pc := 52) (i := 1) (tx := "ake") (List.mem_of_getElem? (i := 4) rfl) dX7_takenWord_52 ?_
    refine v_ci (pc := 54) (v_rV (c_X7_takesAll G l hT hP3 (u := 1) (by decide)) rfl kV_X7_73 (v_rcO hT.1 rfl (by decide)) ⟨Nat.le_of_ble_eq_true rfl, Nat.le_of_ble_eq_true rfl⟩ ⟨Nat.le_of_ble_eq_true rfl, Nat.le_of_ble_eq_true rfl⟩ dX7_takenWord_54 (Nat.le_of_ble_eq_true rfl)) (fun x54 M54 h54 => ?_)
    skip
    obtain ⟨I54, rfl, s54, ⟨e1, rfl, e3⟩ | ⟨a, e1, rfl, e3⟩⟩ := h54
    · refine v_if_eqN (pc := 57) (tgt := 64) (by omega) dX7_takenWord_57 (by decide) (fun c57 => ?_) (fun c57 => ?_)
      · refine v_iconst (pc := 64) (v := -1) dX7_takenWord_64 (by decide) ?_
        exact v_iret (pc := 65) dX7_takenWord_65 rfl rfl (Nat.le_of_ble_eq_true rfl) (Nat.le_of_ble_eq_true rfl) ⟨_, rfl, kS_tr s3 s54, Or.inl ⟨by rw [eW]; exact e1, rfl, by rw [eW]; exact e3⟩⟩
      · exact absurd rfl c57
    · refine v_if_eqN (pc := 57) (tgt := 64) (by omega) dX7_takenWord_57 (by decide) (fun c57 => ?_) (fun c57 => ?_)
      · exact absurd c57 (by decide)
      · refine v_iload_n (pc := 60) dX7_takenWord_60 rfl rfl ?_
        refine v_goto (pc := 61) (tgt := 65) dX7_takenWord_61 (by decide) ?_
        exact v_iret (pc := 65) dX7_takenWord_65 rfl rfl (Nat.le_of_ble_eq_true rfl) (Nat.le_of_ble_eq_true rfl) ⟨_, rfl, kS_tr s3 s54, Or.inr ⟨a, by rw [eW]; exact e1, by rw [e5], by rw [eW]; rw [List.append_nil] at e3; exact e3⟩⟩
  · rw [e]
    have hP3 := n3 (by rw [e]; exact nn_i (by decide))
    have e5 : p_wd T i = 2 := by unfold p_wd; simp [f]
    have eW : p_str T (w_s (p_wd T i)) i = p_str T (t_l 2) (i + 1) := by rw [e5]; exact if_pos f
    refine v_tableIn (pc := 8) (tgt := 66) dX7_takenWord_8 (by decide) (by decide) rfl (by decide) ?_
    refine v_aload_n (pc := 66) dX7_takenWord_66 rfl rfl ?_
    refine v_ldcS (pc := 67) (i := 2) (tx := "reak") (List.mem_of_getElem? (i := 5) rfl) dX7_takenWord_67 ?_
    refine v_ci (pc := 69) (v_rV (c_X7_takesAll G l hT hP3 (u := 2) (by decide)) rfl kV_X7_73 (v_rcO hT.1 rfl (by decide)) ⟨Nat.le_of_ble_eq_true rfl, Nat.le_of_ble_eq_true rfl⟩ ⟨Nat.le_of_ble_eq_true rfl, Nat.le_of_ble_eq_true rfl⟩ dX7_takenWord_69 (Nat.le_of_ble_eq_true rfl)) (fun x69 M69 h69 => ?_)
    skip
    obtain ⟨I69, rfl, s69, ⟨e1, rfl, e3⟩ | ⟨a, e1, rfl, e3⟩⟩ := h69
    · refine v_if_eqN (pc := 72) (tgt := 79) (by omega) dX7_takenWord_72 (by decide) (fun c72 => ?_) (fun c72 => ?_)
      · refine v_iconst (pc := 79) (v := -1) dX7_takenWord_79 (by decide) ?_
        exact v_iret (pc := 80) dX7_takenWord_80 rfl rfl (Nat.le_of_ble_eq_true rfl) (Nat.le_of_ble_eq_true rfl) ⟨_, rfl, kS_tr s3 s69, Or.inl ⟨by rw [eW]; exact e1, rfl, by rw [eW]; exact e3⟩⟩
      · exact absurd rfl c72
    · refine v_if_eqN (pc := 72) (tgt := 79) (by omega) dX7_takenWord_72 (by decide) (fun c72 => ?_) (fun c72 => ?_)
      · exact absurd c72 (by decide)
      · refine v_iload_n (pc := 75) dX7_takenWord_75 rfl rfl ?_
        refine v_goto (pc := 76) (tgt := 80) dX7_takenWord_76 (by decide) ?_
        exact v_iret (pc := 80) dX7_takenWord_80 rfl rfl (Nat.le_of_ble_eq_true rfl) (Nat.le_of_ble_eq_true rfl) ⟨_, rfl, kS_tr s3 s69, Or.inr ⟨a, by rw [eW]; exact e1, by rw [e5], by rw [eW]; rw [List.append_nil] at e3; exact e3⟩⟩
  · rw [e]
    have hP3 := g3 (by rw [e]; decide)
    have eW : p_str T (w_s (p_wd T i)) i = (i, none) := by rw [show p_wd T i = 2 by unfold p_wd; simp [f.1, f.2.1]]; exact if_neg f.2.2
    refine v_tableOut (pc := 8) (tgt := 81) dX7_takenWord_8 (Or.inl (by decide)) (by decide) ?_
    refine v_iconst (pc := 81) (v := -1) dX7_takenWord_81 (by decide) ?_
    exact v_iret (pc := 82) dX7_takenWord_82 rfl rfl (Nat.le_of_ble_eq_true rfl) (Nat.le_of_ble_eq_true rfl) ⟨_, rfl, s3, Or.inl ⟨by rw [eW], rfl, by rw [eW]; exact hP3.2.1.1⟩⟩
