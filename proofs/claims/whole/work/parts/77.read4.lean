/-! THE CLASS reads: deeper -/
abbrev rm_X7_takesBoth_1 : Room := { frames := 13, cells := 0, slots := 0, locals := 560 }
set_option maxRecDepth 20000 in
theorem c_X7_takesBoth_1 (G : v_G) (l : Launch) {K : Nat × v_TY} {I : Nat → Nat → Int32} {J : Nat → Nat → Int64} {R : Nat → Nat → Option Nat} {t : Nat} {T : List Nat} {i : Nat} {ks : List Nat} (hT : TH K R t) (hP : CP7 I t T i ks) : v_M G l yX7_takesBoth cX7_takesBoth 3 (some .boolean) rm_X7_takesBoth_1 [.ref t, .int (nI 3)] (K, I, J, R) (v_Qi G (fun (x : Int32) (M' : v_MM) => ∃ I', M' = (K, I', J, R) ∧ RS I t T ks (p_sq T 38 1 (p_F T 1) i) (fun k => k) x I')) := by
  refine v_of [some (.ref t), some (.int (nI 3)), none] (by decide) (Nat.le_of_ble_eq_true rfl) (Nat.le_of_ble_eq_true rfl) rfl ?_
  have key : ∀ n, n ≤ 100 → ∀ (Ij : Nat → Nat → Int32) (q : Nat) (acc : List Nat), CP7 Ij t T q (ks ++ acc) → kS t I Ij → i + acc.length ≤ q → p_lp T 38 1 (p_F T 1) (100 - n) q acc = p_sq T 38 1 (p_F T 1) i → v_V G l yX7_takesBoth cX7_takesBoth 3 (some .boolean) rm_X7_takesBoth_1 (v_Qi G (fun (x : Int32) (M' : v_MM) => ∃ I', M' = (K, I', J, R) ∧ RS I t T ks (p_sq T 38 1 (p_F T 1) i) (fun k => k) x I')) 0 0 12 [some (.ref t), some (.int (nI 3)), some (.int (nI n))] [] (K, Ij, J, R) := by
    refine v_down 100 (fun n hn ih => ?_)
    intro Ij q acc hQ hk hia he
    refine v_iload_n (pc := 12) dX7_takesBoth_12 rfl rfl ?_
    refine v_bipush (pc := 13) (v := nI 100) dX7_takesBoth_13 (by decide) ?_
    refine v_icmp_geN (pc := 15) (tgt := 49) ⟨by omega, by omega⟩ dX7_takesBoth_15 (by decide) (fun c15 => ?_) (fun c15 => ?_)
    · have eW : p_sq T 38 1 (p_F T 1) i = (q, some acc) := by rw [← he, show 100 - n = 0 by omega]; rfl
      have hQ9 := hQ
      have s9 := hk
      refine v_iconst (pc := 49) (v := nI 1) dX7_takesBoth_49 (by decide) ?_
      exact v_iret (pc := 50) dX7_takesBoth_50 rfl rfl (Nat.le_of_ble_eq_true rfl) (Nat.le_of_ble_eq_true rfl) ⟨_, rfl, s9, Or.inr ⟨_, by rw [eW], rfl, by rw [eW]; exact hQ9⟩⟩
    · refine v_aload_n (pc := 18) dX7_takesBoth_18 rfl rfl ?_
      refine v_bipush (pc := 19) (v := nI 38) dX7_takesBoth_19 (by decide) ?_
      refine v_ci (pc := 21) (v_rV (c_X7_takes G l hT hQ (c := 38) (by decide)) rfl kV_X7_47 (v_rcO hT.1 rfl (by decide)) ⟨Nat.le_of_ble_eq_true rfl, Nat.le_of_ble_eq_true rfl⟩ ⟨Nat.le_of_ble_eq_true rfl, Nat.le_of_ble_eq_true rfl⟩ dX7_takesBoth_21 (Nat.le_of_ble_eq_true rfl)) (fun x21 M21 h21 => ?_)
      obtain ⟨rfl, I21, rfl, s21, g21, n21⟩ := h21
      refine v_if_eqP (pc := 24) (tgt := 49) dX7_takesBoth_24 (by decide) (fun c24 => ?_) (fun c24 => ?_)
      · have eW : p_sq T 38 1 (p_F T 1) i = (q, some acc) := by rw [← he, p_lp_s (by omega), if_neg c24]
        have hQ9 := n21 c24
        have s9 := kS_tr hk s21
        refine v_iconst (pc := 49) (v := nI 1) dX7_takesBoth_49 (by decide) ?_
        exact v_iret (pc := 50) dX7_takesBoth_50 rfl rfl (Nat.le_of_ble_eq_true rfl) (Nat.le_of_ble_eq_true rfl) ⟨_, rfl, s9, Or.inr ⟨_, by rw [eW], rfl, by rw [eW]; exact hQ9⟩⟩
      · have hQ1 := g21 c24
        have hF := (PP_F T 1) (q + 1) hQ1.2.1.2
        have hks := hP.2.2.1.2
        refine v_aload_n (pc := 27) dX7_takesBoth_27 rfl rfl ?_
        refine v_iload_n (pc := 28) dX7_takesBoth_28 rfl rfl ?_
        refine v_ci (pc := 29) (v_rV (c_X7_takesFactor_1 G l hT hQ1) rfl kV_X7_98 (v_rcO hT.1 rfl (by decide)) ⟨Nat.le_of_ble_eq_true rfl, Nat.le_of_ble_eq_true rfl⟩ ⟨Nat.le_of_ble_eq_true rfl, Nat.le_of_ble_eq_true rfl⟩ dX7_takesBoth_29 (Nat.le_of_ble_eq_true rfl)) (fun x29 M29 h29 => ?_)
        skip
        obtain ⟨I29, rfl, s29, ⟨e1, rfl, e3⟩ | ⟨k2, e1, rfl, e3⟩⟩ := h29
        · have eW : p_sq T 38 1 (p_F T 1) i = ((p_F T 1 (q + 1)).1, none) := by rw [← he, p_lp_s (by omega), if_pos c24, p_b_n e1]
          refine v_if_neN (pc := 32) (tgt := 37) (by omega) dX7_takesBoth_32 (by decide) (fun c32 => ?_) (fun c32 => ?_)
          · exact absurd rfl c32
          · refine v_iconst (pc := 35) (v := nI 0) dX7_takesBoth_35 (by decide) ?_
            exact v_iret (pc := 36) dX7_takesBoth_36 rfl rfl (Nat.le_of_ble_eq_true rfl) (Nat.le_of_ble_eq_true rfl) ⟨_, rfl, kS_tr hk (kS_tr s21 s29), Or.inl ⟨by rw [eW], rfl, by rw [eW]; exact e3⟩⟩
        · have hl9 := (hF.2.2 k2 e1).1
          refine v_if_neN (pc := 32) (tgt := 37) (by omega) dX7_takesBoth_32 (by decide) (fun c32 => ?_) (fun c32 => ?_)
          · refine v_aload_n (pc := 37) dX7_takesBoth_37 rfl rfl ?_
            refine v_bipush (pc := 38) (v := -2) dX7_takesBoth_38 (by decide) ?_
            refine v_cv (pc := 40) (v_rV (c_X7_keep G l hT e3 (k := 1) (by rw [List.length_append, List.length_append]; dsimp only; omega)) rfl kV_X7_94 (v_rcO hT.1 rfl (by decide)) ⟨Nat.le_of_ble_eq_true rfl, Nat.le_of_ble_eq_true rfl⟩ ⟨Nat.le_of_ble_eq_true rfl, Nat.le_of_ble_eq_true rfl⟩ dX7_takesBoth_40 (Nat.le_of_ble_eq_true rfl)) (fun M40 h40 => ?_)
            obtain ⟨I40, rfl, s40, q40⟩ := h40
            refine v_iincN (pc := 43) (b := 1) dX7_takesBoth_43 rfl (by decide) (by decide) rfl ?_
            refine v_goto (pc := 46) (tgt := 12) dX7_takesBoth_46 (by decide) ?_
            exact ih (n + 1) (by omega) (by omega) I40 _ (acc ++ k2 ++ [1]) (by rw [List.append_assoc, List.append_assoc, ← List.append_assoc acc, ← List.append_assoc ks] at q40; rw [← List.append_assoc]; exact q40) (kS_tr hk (kS_tr s21 (kS_tr s29 s40))) (by rw [List.length_append, List.length_append]; show i + (_ + _ + 1) ≤ _; omega) (by rw [← he, p_lp_s (n := n) (by omega), if_pos c24, p_b_s e1])
          · exact absurd c32 (by decide)
  · refine v_aload_n (pc := 0) dX7_takesBoth_0 rfl rfl ?_
    refine v_iload_n (pc := 1) dX7_takesBoth_1 rfl rfl ?_
    refine v_ci (pc := 2) (v_rV (c_X7_takesFactor_1 G l hT hP) rfl kV_X7_98 (v_rcO hT.1 rfl (by decide)) ⟨Nat.le_of_ble_eq_true rfl, Nat.le_of_ble_eq_true rfl⟩ ⟨Nat.le_of_ble_eq_true rfl, Nat.le_of_ble_eq_true rfl⟩ dX7_takesBoth_2 (Nat.le_of_ble_eq_true rfl)) (fun x2 M2 h2 => ?_)
    skip
    obtain ⟨I2, rfl, s2, ⟨e1, rfl, e3⟩ | ⟨k, e1, rfl, e3⟩⟩ := h2
    · have eW : p_sq T 38 1 (p_F T 1) i = ((p_F T 1 i).1, none) := p_b_n e1
      refine v_if_neN (pc := 5) (tgt := 10) (by omega) dX7_takesBoth_5 (by decide) (fun c5 => ?_) (fun c5 => ?_)
      · exact absurd rfl c5
      · refine v_iconst (pc := 8) (v := nI 0) dX7_takesBoth_8 (by decide) ?_
        exact v_iret (pc := 9) dX7_takesBoth_9 rfl rfl (Nat.le_of_ble_eq_true rfl) (Nat.le_of_ble_eq_true rfl) ⟨_, rfl, s2, Or.inl ⟨by rw [eW], rfl, by rw [eW]; exact e3⟩⟩
    · refine v_if_neN (pc := 5) (tgt := 10) (by omega) dX7_takesBoth_5 (by decide) (fun c5 => ?_) (fun c5 => ?_)
      · refine v_iconst (pc := 10) (v := nI 0) dX7_takesBoth_10 (by decide) ?_
        refine v_istore_n (pc := 11) dX7_takesBoth_11 rfl (by decide) rfl ?_
        exact key 0 (by decide) I2 _ k e3 s2 ((PP_F T 1) i hP.2.1.2 |>.2.2 k e1).1 (p_b_s e1).symm
      · exact absurd c5 (by decide)
abbrev rm_X7_takesEither_1 : Room := { frames := 14, cells := 0, slots := 0, locals := 600 }
set_option maxRecDepth 20000 in
theorem c_X7_takesEither_1 (G : v_G) (l : Launch) {K : Nat × v_TY} {I : Nat → Nat → Int32} {J : Nat → Nat → Int64} {R : Nat → Nat → Option Nat} {t : Nat} {T : List Nat} {i : Nat} {ks : List Nat} (hT : TH K R t) (hP : CP7 I t T i ks) : v_M G l yX7_takesEither cX7_takesEither 3 (some .boolean) rm_X7_takesEither_1 [.ref t, .int (nI 3)] (K, I, J, R) (v_Qi G (fun (x : Int32) (M' : v_MM) => ∃ I', M' = (K, I', J, R) ∧ RS I t T ks (p_E T 1 i) (fun k => k) x I')) := by
  refine v_of [some (.ref t), some (.int (nI 3)), none] (by decide) (Nat.le_of_ble_eq_true rfl) (Nat.le_of_ble_eq_true rfl) rfl ?_
  have key : ∀ n, n ≤ 100 → ∀ (Ij : Nat → Nat → Int32) (q : Nat) (acc : List Nat), CP7 Ij t T q (ks ++ acc) → kS t I Ij → i + acc.length ≤ q → p_lp T 124 2 (p_sq T 38 1 (p_F T 1)) (100 - n) q acc = p_E T 1 i → v_V G l yX7_takesEither cX7_takesEither 3 (some .boolean) rm_X7_takesEither_1 (v_Qi G (fun (x : Int32) (M' : v_MM) => ∃ I', M' = (K, I', J, R) ∧ RS I t T ks (p_E T 1 i) (fun k => k) x I')) 0 0 12 [some (.ref t), some (.int (nI 3)), some (.int (nI n))] [] (K, Ij, J, R) := by
    refine v_down 100 (fun n hn ih => ?_)
    intro Ij q acc hQ hk hia he
    refine v_iload_n (pc := 12) dX7_takesEither_12 rfl rfl ?_
    refine v_bipush (pc := 13) (v := nI 100) dX7_takesEither_13 (by decide) ?_
    refine v_icmp_geN (pc := 15) (tgt := 49) ⟨by omega, by omega⟩ dX7_takesEither_15 (by decide) (fun c15 => ?_) (fun c15 => ?_)
    · have eW : p_E T 1 i = (q, some acc) := by rw [← he, show 100 - n = 0 by omega]; rfl
      have hQ9 := hQ
      have s9 := hk
      refine v_iconst (pc := 49) (v := nI 1) dX7_takesEither_49 (by decide) ?_
      exact v_iret (pc := 50) dX7_takesEither_50 rfl rfl (Nat.le_of_ble_eq_true rfl) (Nat.le_of_ble_eq_true rfl) ⟨_, rfl, s9, Or.inr ⟨_, by rw [eW], rfl, by rw [eW]; exact hQ9⟩⟩
    · refine v_aload_n (pc := 18) dX7_takesEither_18 rfl rfl ?_
      refine v_bipush (pc := 19) (v := nI 124) dX7_takesEither_19 (by decide) ?_
      refine v_ci (pc := 21) (v_rV (c_X7_takes G l hT hQ (c := 124) (by decide)) rfl kV_X7_47 (v_rcO hT.1 rfl (by decide)) ⟨Nat.le_of_ble_eq_true rfl, Nat.le_of_ble_eq_true rfl⟩ ⟨Nat.le_of_ble_eq_true rfl, Nat.le_of_ble_eq_true rfl⟩ dX7_takesEither_21 (Nat.le_of_ble_eq_true rfl)) (fun x21 M21 h21 => ?_)
      obtain ⟨rfl, I21, rfl, s21, g21, n21⟩ := h21
      refine v_if_eqP (pc := 24) (tgt := 49) dX7_takesEither_24 (by decide) (fun c24 => ?_) (fun c24 => ?_)
      · have eW : p_E T 1 i = (q, some acc) := by rw [← he, p_lp_s (by omega), if_neg c24]
        have hQ9 := n21 c24
        have s9 := kS_tr hk s21
        refine v_iconst (pc := 49) (v := nI 1) dX7_takesEither_49 (by decide) ?_
        exact v_iret (pc := 50) dX7_takesEither_50 rfl rfl (Nat.le_of_ble_eq_true rfl) (Nat.le_of_ble_eq_true rfl) ⟨_, rfl, s9, Or.inr ⟨_, by rw [eW], rfl, by rw [eW]; exact hQ9⟩⟩
      · have hQ1 := g21 c24
        have hF := (PP_sq (T := T) (sep := 38) (op := 1) (PP_F T 1) (by decide) (Or.inl rfl)) (q + 1) hQ1.2.1.2
        have hks := hP.2.2.1.2
        refine v_aload_n (pc := 27) dX7_takesEither_27 rfl rfl ?_
        refine v_iload_n (pc := 28) dX7_takesEither_28 rfl rfl ?_
        refine v_ci (pc := 29) (v_rV (c_X7_takesBoth_1 G l hT hQ1) rfl kV_X7_91 (v_rcO hT.1 rfl (by decide)) ⟨Nat.le_of_ble_eq_true rfl, Nat.le_of_ble_eq_true rfl⟩ ⟨Nat.le_of_ble_eq_true rfl, Nat.le_of_ble_eq_true rfl⟩ dX7_takesEither_29 (Nat.le_of_ble_eq_true rfl)) (fun x29 M29 h29 => ?_)
        skip
        obtain ⟨I29, rfl, s29, ⟨e1, rfl, e3⟩ | ⟨k2, e1, rfl, e3⟩⟩ := h29
        · have eW : p_E T 1 i = ((p_sq T 38 1 (p_F T 1) (q + 1)).1, none) := by rw [← he, p_lp_s (by omega), if_pos c24, p_b_n e1]
          refine v_if_neN (pc := 32) (tgt := 37) (by omega) dX7_takesEither_32 (by decide) (fun c32 => ?_) (fun c32 => ?_)
          · exact absurd rfl c32
          · refine v_iconst (pc := 35) (v := nI 0) dX7_takesEither_35 (by decide) ?_
            exact v_iret (pc := 36) dX7_takesEither_36 rfl rfl (Nat.le_of_ble_eq_true rfl) (Nat.le_of_ble_eq_true rfl) ⟨_, rfl, kS_tr hk (kS_tr s21 s29), Or.inl ⟨by rw [eW], rfl, by rw [eW]; exact e3⟩⟩
        · have hl9 := (hF.2.2 k2 e1).1
          refine v_if_neN (pc := 32) (tgt := 37) (by omega) dX7_takesEither_32 (by decide) (fun c32 => ?_) (fun c32 => ?_)
          · refine v_aload_n (pc := 37) dX7_takesEither_37 rfl rfl ?_
            refine v_bipush (pc := 38) (v := -3) dX7_takesEither_38 (by decide) ?_
            refine v_cv (pc := 40) (v_rV (c_X7_keep G l hT e3 (k := 2) (by rw [List.length_append, List.length_append]; dsimp only; omega)) rfl kV_X7_94 (v_rcO hT.1 rfl (by decide)) ⟨Nat.le_of_ble_eq_true rfl, Nat.le_of_ble_eq_true rfl⟩ ⟨Nat.le_of_ble_eq_true rfl, Nat.le_of_ble_eq_true rfl⟩ dX7_takesEither_40 (Nat.le_of_ble_eq_true rfl)) (fun M40 h40 => ?_)
            obtain ⟨I40, rfl, s40, q40⟩ := h40
            refine v_iincN (pc := 43) (b := 1) dX7_takesEither_43 rfl (by decide) (by decide) rfl ?_
            refine v_goto (pc := 46) (tgt := 12) dX7_takesEither_46 (by decide) ?_
            exact ih (n + 1) (by omega) (by omega) I40 _ (acc ++ k2 ++ [2]) (by rw [List.append_assoc, List.append_assoc, ← List.append_assoc acc, ← List.append_assoc ks] at q40; rw [← List.append_assoc]; exact q40) (kS_tr hk (kS_tr s21 (kS_tr s29 s40))) (by rw [List.length_append, List.length_append]; show i + (_ + _ + 1) ≤ _; omega) (by rw [← he, p_lp_s (n := n) (by omega), if_pos c24, p_b_s e1])
          · exact absurd c32 (by decide)
  · refine v_aload_n (pc := 0) dX7_takesEither_0 rfl rfl ?_
    refine v_iload_n (pc := 1) dX7_takesEither_1 rfl rfl ?_
    refine v_ci (pc := 2) (v_rV (c_X7_takesBoth_1 G l hT hP) rfl kV_X7_91 (v_rcO hT.1 rfl (by decide)) ⟨Nat.le_of_ble_eq_true rfl, Nat.le_of_ble_eq_true rfl⟩ ⟨Nat.le_of_ble_eq_true rfl, Nat.le_of_ble_eq_true rfl⟩ dX7_takesEither_2 (Nat.le_of_ble_eq_true rfl)) (fun x2 M2 h2 => ?_)
    skip
    obtain ⟨I2, rfl, s2, ⟨e1, rfl, e3⟩ | ⟨k, e1, rfl, e3⟩⟩ := h2
    · have eW : p_E T 1 i = ((p_sq T 38 1 (p_F T 1) i).1, none) := p_b_n e1
      refine v_if_neN (pc := 5) (tgt := 10) (by omega) dX7_takesEither_5 (by decide) (fun c5 => ?_) (fun c5 => ?_)
      · exact absurd rfl c5
      · refine v_iconst (pc := 8) (v := nI 0) dX7_takesEither_8 (by decide) ?_
        exact v_iret (pc := 9) dX7_takesEither_9 rfl rfl (Nat.le_of_ble_eq_true rfl) (Nat.le_of_ble_eq_true rfl) ⟨_, rfl, s2, Or.inl ⟨by rw [eW], rfl, by rw [eW]; exact e3⟩⟩
    · refine v_if_neN (pc := 5) (tgt := 10) (by omega) dX7_takesEither_5 (by decide) (fun c5 => ?_) (fun c5 => ?_)
      · refine v_iconst (pc := 10) (v := nI 0) dX7_takesEither_10 (by decide) ?_
        refine v_istore_n (pc := 11) dX7_takesEither_11 rfl (by decide) rfl ?_
        exact key 0 (by decide) I2 _ k e3 s2 ((PP_sq (T := T) (sep := 38) (op := 1) (PP_F T 1) (by decide) (Or.inl rfl)) i hP.2.1.2 |>.2.2 k e1).1 (p_b_s e1).symm
      · exact absurd c5 (by decide)
abbrev rm_X7_takesFactor_2 : Room := { frames := 15, cells := 0, slots := 0, locals := 640 }
set_option maxRecDepth 20000 in
theorem c_X7_takesFactor_2 (G : v_G) (l : Launch) {K : Nat × v_TY} {I : Nat → Nat → Int32} {J : Nat → Nat → Int64} {R : Nat → Nat → Option Nat} {t : Nat} {T : List Nat} {i : Nat} {ks : List Nat} (hT : TH K R t) (hP : CP7 I t T i ks) : v_M G l yX7_takesFactor cX7_takesFactor 5 (some .boolean) rm_X7_takesFactor_2 [.ref t, .int (nI 2)] (K, I, J, R) (v_Qi G (fun (x : Int32) (M' : v_MM) => ∃ I', M' = (K, I', J, R) ∧ RS I t T ks (p_F T 2 i) (fun k => k) x I')) := by
  refine v_of [some (.ref t), some (.int (nI 2)), none, none, none] (by decide) (Nat.le_of_ble_eq_true rfl) (Nat.le_of_ble_eq_true rfl) rfl ?_
  have tst : ∀ (I2 : Nat → Nat → Int32), CP7 I2 t T i ks → kS t I I2 → p_F T 2 i = p_tst T i → v_V G l yX7_takesFactor cX7_takesFactor 5 (some .boolean) rm_X7_takesFactor_2 (v_Qi G (fun (x : Int32) (M' : v_MM) => ∃ I', M' = (K, I', J, R) ∧ RS I t T ks (p_F T 2 i) (fun k => k) x I')) 0 0 72 [some (.ref t), some (.int (nI 2)), none, none, none] [] (K, I2, J, R) := by
    intro I2 hQ hk e0
    refine v_aload_n (pc := 72) dX7_takesFactor_72 rfl rfl ?_
    refine v_ldcS (pc := 73) (i := 5) (tx := "abfdey") (List.mem_of_getElem? (i := 0) rfl) dX7_takesFactor_73 ?_
    refine v_ci (pc := 75) (v_rV (c_X7_takenOneOf G l hT hQ (u := 5) (by decide)) rfl kV_X7_67 (v_rcO hT.1 rfl (by decide)) ⟨Nat.le_of_ble_eq_true rfl, Nat.le_of_ble_eq_true rfl⟩ ⟨Nat.le_of_ble_eq_true rfl, Nat.le_of_ble_eq_true rfl⟩ dX7_takesFactor_75 (Nat.le_of_ble_eq_true rfl)) (fun x75 M75 h75 => ?_)
    obtain ⟨rfl, I75, rfl, s75, g75, n75⟩ := h75
    have hx5 := CP7_tx hQ i
    rw [t_ix5 _ hx5] at g75 n75 ⊢
    rcases e5 : p_le (tx T i) with _ | f <;> rw [e5] at g75 n75
    · have eW : p_F T 2 i = (i, none) := e0.trans (p_tst0 e5)
      have eQ := (g75 (by decide)).2.1.1
      refine v_istore_n (pc := 78) dX7_takesFactor_78 rfl (by decide) rfl ?_
      refine v_iload_n (pc := 79) dX7_takesFactor_79 rfl rfl ?_
      refine v_if_ge (pc := 80) (tgt := 87) dX7_takesFactor_80 (by decide) (fun c80 => ?_) (fun c80 => ?_)
      · exact absurd c80 (by decide)
      · refine v_iconst (pc := 83) (v := -1) dX7_takesFactor_83 (by decide) ?_
        refine v_goto (pc := 84) (tgt := 93) dX7_takesFactor_84 (by decide) ?_
        refine v_istore_n (pc := 93) dX7_takesFactor_93 rfl (by decide) rfl ?_
        refine v_iload_n (pc := 94) dX7_takesFactor_94 rfl rfl ?_
        refine v_if_ge (pc := 95) (tgt := 102) dX7_takesFactor_95 (by decide) (fun c95 => ?_) (fun c95 => ?_)
        · exact absurd c95 (by decide)
        · refine v_iconst (pc := 98) (v := -1) dX7_takesFactor_98 (by decide) ?_
          refine v_goto (pc := 99) (tgt := 106) dX7_takesFactor_99 (by decide) ?_
          refine v_istore (pc := 106) dX7_takesFactor_106 (by decide) rfl ?_
          refine v_iload (pc := 108) dX7_takesFactor_108 rfl ?_
          refine v_if_ge (pc := 110) (tgt := 115) dX7_takesFactor_110 (by decide) (fun c110 => ?_) (fun c110 => ?_)
          · exact absurd c110 (by decide)
          · refine v_iconst (pc := 113) (v := nI 0) dX7_takesFactor_113 (by decide) ?_
            exact v_iret (pc := 114) dX7_takesFactor_114 rfl rfl (Nat.le_of_ble_eq_true rfl) (Nat.le_of_ble_eq_true rfl) ⟨_, rfl, kS_tr hk s75, Or.inl ⟨by rw [eW], rfl, by rw [eW]; exact eQ⟩⟩
    · have f6 := (p_le_ok e5).1
      have hQ1 := n75 (nn_i (by omega))
      refine v_istore_n (pc := 78) dX7_takesFactor_78 rfl (by decide) rfl ?_
      refine v_iload_n (pc := 79) dX7_takesFactor_79 rfl rfl ?_
      refine v_if_geN (pc := 80) (tgt := 87) (by omega) dX7_takesFactor_80 (by decide) ?_
      refine v_aload_n (pc := 87) dX7_takesFactor_87 rfl rfl ?_
      refine v_ldcS (pc := 88) (i := 6) (tx := "<=>") (List.mem_of_getElem? (i := 1) rfl) dX7_takesFactor_88 ?_
      refine v_ci (pc := 90) (v_rV (c_X7_takenOneOf G l hT hQ1 (u := 6) (by decide)) rfl kV_X7_67 (v_rcO hT.1 rfl (by decide)) ⟨Nat.le_of_ble_eq_true rfl, Nat.le_of_ble_eq_true rfl⟩ ⟨Nat.le_of_ble_eq_true rfl, Nat.le_of_ble_eq_true rfl⟩ dX7_takesFactor_90 (Nat.le_of_ble_eq_true rfl)) (fun x90 M90 h90 => ?_)
      obtain ⟨rfl, I90, rfl, s90, g90, n90⟩ := h90
      have hx6 := CP7_tx hQ1 (i + 1)
      rw [t_ix6 _ hx6] at g90 n90 ⊢
      by_cases d2 : 60 ≤ tx T (i + 1) ∧ tx T (i + 1) ≤ 62
      · rw [if_pos d2] at g90 n90 ⊢
        have hQ2 := n90 (nn_i (by omega))
        have hnm := p_num_ok hQ2.2.1.2
        have e8 := p_tst2 e5 d2
        obtain ⟨s9, hs9⟩ : ∃ s9, tx T (i + 1) - 60 = s9 := ⟨_, rfl⟩
        rw [hs9] at e8 ⊢
        refine v_istore_n (pc := 93) dX7_takesFactor_93 rfl (by decide) rfl ?_
        refine v_iload_n (pc := 94) dX7_takesFactor_94 rfl rfl ?_
        refine v_if_geN (pc := 95) (tgt := 102) (by omega) dX7_takesFactor_95 (by decide) ?_
        refine v_aload_n (pc := 102) dX7_takesFactor_102 rfl rfl ?_
        refine v_ci (pc := 103) (v_rV (c_X7_takenNumber G l hT hQ2) rfl kV_X7_59 (v_rcO hT.1 rfl (by decide)) ⟨Nat.le_of_ble_eq_true rfl, Nat.le_of_ble_eq_true rfl⟩ ⟨Nat.le_of_ble_eq_true rfl, Nat.le_of_ble_eq_true rfl⟩ dX7_takesFactor_103 (Nat.le_of_ble_eq_true rfl)) (fun x103 M103 h103 => ?_)
        obtain ⟨rfl, I103, rfl, s103, q103⟩ := h103
        rcases e7 : (p_num T (i + 2)).2 with _ | d
        · have eW : p_F T 2 i = ((p_num T (i + 2)).1, none) := e0.trans (e8.trans (p_b_n e7))
          have eQ := q103.2.1.1
          refine v_istore (pc := 106) dX7_takesFactor_106 (by decide) rfl ?_
          refine v_iload (pc := 108) dX7_takesFactor_108 rfl ?_
          refine v_if_ge (pc := 110) (tgt := 115) dX7_takesFactor_110 (by decide) (fun c110 => ?_) (fun c110 => ?_)
          · exact absurd c110 (by decide)
          · refine v_iconst (pc := 113) (v := nI 0) dX7_takesFactor_113 (by decide) ?_
            exact v_iret (pc := 114) dX7_takesFactor_114 rfl rfl (Nat.le_of_ble_eq_true rfl) (Nat.le_of_ble_eq_true rfl) ⟨_, rfl, kS_tr hk (kS_tr s75 (kS_tr s90 s103)), Or.inl ⟨by rw [eW], rfl, by rw [eW]; exact eQ⟩⟩
        · have hd9 := hnm.2.2 d e7
          have eW : p_F T 2 i = ((p_num T (i + 2)).1, some [300 * f + 100 * s9 + d + 3]) := e0.trans (e8.trans (p_b_s e7))
          have hl9 := hQ.2.2.1.2
          show v_V G l _ _ _ _ _ _ _ _ _ _ (.int (nI d) :: _) _
          refine v_istore (pc := 106) dX7_takesFactor_106 (by decide) rfl ?_
          refine v_iload (pc := 108) dX7_takesFactor_108 rfl ?_
          refine v_if_geN (pc := 110) (tgt := 115) (by omega) dX7_takesFactor_110 (by decide) ?_
          refine v_aload_n (pc := 115) dX7_takesFactor_115 rfl rfl ?_
          refine v_iload_n (pc := 116) dX7_takesFactor_116 rfl rfl ?_
          refine v_iconst (pc := 117) (v := nI 3) dX7_takesFactor_117 (by decide) ?_
          refine v_imulN (pc := 118) dX7_takesFactor_118 ?_
          refine v_iload_n (pc := 119) dX7_takesFactor_119 rfl rfl ?_
          refine v_iaddN (pc := 120) dX7_takesFactor_120 ?_
          refine v_bipush (pc := 121) (v := nI 100) dX7_takesFactor_121 (by decide) ?_
          refine v_imulN (pc := 123) dX7_takesFactor_123 ?_
          refine v_iload (pc := 124) dX7_takesFactor_124 rfl ?_
          refine v_iaddN (pc := 126) dX7_takesFactor_126 ?_
          refine v_top c_tk ?_
          refine v_cv (pc := 127) (v_rV (c_X7_keep G l hT q103 (by omega)) rfl kV_X7_94 (v_rcO hT.1 rfl (by decide)) ⟨Nat.le_of_ble_eq_true rfl, Nat.le_of_ble_eq_true rfl⟩ ⟨Nat.le_of_ble_eq_true rfl, Nat.le_of_ble_eq_true rfl⟩ dX7_takesFactor_127 (Nat.le_of_ble_eq_true rfl)) (fun M127 h127 => ?_)
          obtain ⟨I127, rfl, s127, q127⟩ := h127
          refine v_iconst (pc := 130) (v := nI 1) dX7_takesFactor_130 (by decide) ?_
          exact v_iret (pc := 131) dX7_takesFactor_131 rfl rfl (Nat.le_of_ble_eq_true rfl) (Nat.le_of_ble_eq_true rfl) ⟨_, rfl, kS_tr hk (kS_tr s75 (kS_tr s90 (kS_tr s103 s127))), Or.inr ⟨_, by rw [eW], rfl, by rw [eW]; exact q127⟩⟩
      · rw [if_neg d2] at g90 n90 ⊢
        have eW : p_F T 2 i = (i + 1, none) := e0.trans (p_tst1 e5 d2)
        have eQ := (g90 (by decide)).2.1.1
        refine v_istore_n (pc := 93) dX7_takesFactor_93 rfl (by decide) rfl ?_
        refine v_iload_n (pc := 94) dX7_takesFactor_94 rfl rfl ?_
        refine v_if_ge (pc := 95) (tgt := 102) dX7_takesFactor_95 (by decide) (fun c95 => ?_) (fun c95 => ?_)
        · exact absurd c95 (by decide)
        · refine v_iconst (pc := 98) (v := -1) dX7_takesFactor_98 (by decide) ?_
          refine v_goto (pc := 99) (tgt := 106) dX7_takesFactor_99 (by decide) ?_
          refine v_istore (pc := 106) dX7_takesFactor_106 (by decide) rfl ?_
          refine v_iload (pc := 108) dX7_takesFactor_108 rfl ?_
          refine v_if_ge (pc := 110) (tgt := 115) dX7_takesFactor_110 (by decide) (fun c110 => ?_) (fun c110 => ?_)
          · exact absurd c110 (by decide)
          · refine v_iconst (pc := 113) (v := nI 0) dX7_takesFactor_113 (by decide) ?_
            exact v_iret (pc := 114) dX7_takesFactor_114 rfl rfl (Nat.le_of_ble_eq_true rfl) (Nat.le_of_ble_eq_true rfl) ⟨_, rfl, kS_tr hk (kS_tr s75 s90), Or.inl ⟨by rw [eW], rfl, by rw [eW]; exact eQ⟩⟩
  · refine v_iload_n (pc := 0) dX7_takesFactor_0 rfl rfl ?_
    refine v_iconst (pc := 1) (v := nI 4) dX7_takesFactor_1 (by decide) ?_
    refine v_icmp_geN (pc := 2) (tgt := 33) ⟨by omega, by omega⟩ dX7_takesFactor_2 (by decide) (fun c2 => ?_) (fun c2 => ?_)
    · exact absurd c2 (by decide)
    · refine v_aload_n (pc := 5) dX7_takesFactor_5 rfl rfl ?_
      refine v_bipush (pc := 6) (v := nI 33) dX7_takesFactor_6 (by decide) ?_
      refine v_ci (pc := 8) (v_rV (c_X7_takes G l hT hP (c := 33) (by decide)) rfl kV_X7_47 (v_rcO hT.1 rfl (by decide)) ⟨Nat.le_of_ble_eq_true rfl, Nat.le_of_ble_eq_true rfl⟩ ⟨Nat.le_of_ble_eq_true rfl, Nat.le_of_ble_eq_true rfl⟩ dX7_takesFactor_8 (Nat.le_of_ble_eq_true rfl)) (fun x8 M8 h8 => ?_)
      obtain ⟨rfl, I8, rfl, s8, g8, n8⟩ := h8
      refine v_if_eqP (pc := 11) (tgt := 33) dX7_takesFactor_11 (by decide) (fun c11 => ?_) (fun c11 => ?_)
      · have hP8 := n8 c11
        refine v_iload_n (pc := 33) dX7_takesFactor_33 rfl rfl ?_
        refine v_iconst (pc := 34) (v := nI 4) dX7_takesFactor_34 (by decide) ?_
        refine v_icmp_geN (pc := 35) (tgt := 72) ⟨by omega, by omega⟩ dX7_takesFactor_35 (by decide) (fun c35 => ?_) (fun c35 => ?_)
        · exact absurd c35 (by decide)
        · refine v_aload_n (pc := 38) dX7_takesFactor_38 rfl rfl ?_
          refine v_bipush (pc := 39) (v := nI 40) dX7_takesFactor_39 (by decide) ?_
          refine v_ci (pc := 41) (v_rV (c_X7_takes G l hT hP8 (c := 40) (by decide)) rfl kV_X7_47 (v_rcO hT.1 rfl (by decide)) ⟨Nat.le_of_ble_eq_true rfl, Nat.le_of_ble_eq_true rfl⟩ ⟨Nat.le_of_ble_eq_true rfl, Nat.le_of_ble_eq_true rfl⟩ dX7_takesFactor_41 (Nat.le_of_ble_eq_true rfl)) (fun x41 M41 h41 => ?_)
          obtain ⟨rfl, I41, rfl, s41, g41, n41⟩ := h41
          refine v_if_eqP (pc := 44) (tgt := 72) dX7_takesFactor_44 (by decide) (fun c44 => ?_) (fun c44 => ?_)
          · have hP41 := n41 c44
            exact tst I41 hP41 (kS_tr s8 s41) (by rw [p_F_s, if_neg c11, if_neg c44])
          · have hP41 := g41 c44
            refine v_aload_n (pc := 47) dX7_takesFactor_47 rfl rfl ?_
            refine v_iload_n (pc := 48) dX7_takesFactor_48 rfl rfl ?_
            refine v_iconst (pc := 49) (v := nI 1) dX7_takesFactor_49 (by decide) ?_
            refine v_iaddN (pc := 50) dX7_takesFactor_50 ?_
            refine v_ci (pc := 51) (v_rV (c_X7_takesEither_1 G l hT hP41) rfl kV_X7_62 (v_rcO hT.1 rfl (by decide)) ⟨Nat.le_of_ble_eq_true rfl, Nat.le_of_ble_eq_true rfl⟩ ⟨Nat.le_of_ble_eq_true rfl, Nat.le_of_ble_eq_true rfl⟩ dX7_takesFactor_51 (Nat.le_of_ble_eq_true rfl)) (fun x51 M51 h51 => ?_)
            skip
            obtain ⟨I51, rfl, s51, ⟨e1, rfl, e3⟩ | ⟨k, e1, rfl, e3⟩⟩ := h51
            · have eW : p_F T 2 i = ((p_E T 1 (i + 1)).1, none) := by rw [p_F_s, if_neg c11, if_pos c44, p_b_n e1]
              refine v_if_eqN (pc := 54) (tgt := 70) (by omega) dX7_takesFactor_54 (by decide) (fun c54 => ?_) (fun c54 => ?_)
              · refine v_iconst (pc := 70) (v := nI 0) dX7_takesFactor_70 (by decide) ?_
                exact v_iret (pc := 71) dX7_takesFactor_71 rfl rfl (Nat.le_of_ble_eq_true rfl) (Nat.le_of_ble_eq_true rfl) ⟨_, rfl, kS_tr s8 (kS_tr s41 s51), Or.inl ⟨by rw [eW], rfl, by rw [eW]; exact e3⟩⟩
              · exact absurd rfl c54
            · refine v_if_eqN (pc := 54) (tgt := 70) (by omega) dX7_takesFactor_54 (by decide) (fun c54 => ?_) (fun c54 => ?_)
              · exact absurd c54 (by decide)
              · refine v_aload_n (pc := 57) dX7_takesFactor_57 rfl rfl ?_
                refine v_bipush (pc := 58) (v := nI 41) dX7_takesFactor_58 (by decide) ?_
                refine v_ci (pc := 60) (v_rV (c_X7_takes G l hT e3 (c := 41) (by decide)) rfl kV_X7_47 (v_rcO hT.1 rfl (by decide)) ⟨Nat.le_of_ble_eq_true rfl, Nat.le_of_ble_eq_true rfl⟩ ⟨Nat.le_of_ble_eq_true rfl, Nat.le_of_ble_eq_true rfl⟩ dX7_takesFactor_60 (Nat.le_of_ble_eq_true rfl)) (fun x60 M60 h60 => ?_)
                obtain ⟨rfl, I60, rfl, s60, g60, n60⟩ := h60
                refine v_if_eqP (pc := 63) (tgt := 70) dX7_takesFactor_63 (by decide) (fun c63 => ?_) (fun c63 => ?_)
                · have eW : p_F T 2 i = ((p_E T 1 (i + 1)).1, none) := by rw [p_F_s, if_neg c11, if_pos c44, p_b_s e1, if_neg c63]
                  refine v_iconst (pc := 70) (v := nI 0) dX7_takesFactor_70 (by decide) ?_
                  exact v_iret (pc := 71) dX7_takesFactor_71 rfl rfl (Nat.le_of_ble_eq_true rfl) (Nat.le_of_ble_eq_true rfl) (by first | exact ⟨_, rfl, kS_tr s8 (kS_tr s41 (kS_tr s51 s60)), Or.inr ⟨_, by rw [eW], rfl, by rw [eW]; exact g60 c63⟩⟩ | exact ⟨_, rfl, kS_tr s8 (kS_tr s41 (kS_tr s51 s60)), Or.inl ⟨by rw [eW], rfl, by rw [eW]; exact (n60 c63).2.1.1⟩⟩)
                · have eW : p_F T 2 i = ((p_E T 1 (i + 1)).1 + 1, some k) := by rw [p_F_s, if_neg c11, if_pos c44, p_b_s e1, if_pos c63]
                  refine v_iconst (pc := 66) (v := nI 1) dX7_takesFactor_66 (by decide) ?_
                  refine v_goto (pc := 67) (tgt := 71) dX7_takesFactor_67 (by decide) ?_
                  exact v_iret (pc := 71) dX7_takesFactor_71 rfl rfl (Nat.le_of_ble_eq_true rfl) (Nat.le_of_ble_eq_true rfl) (by first | exact ⟨_, rfl, kS_tr s8 (kS_tr s41 (kS_tr s51 s60)), Or.inr ⟨_, by rw [eW], rfl, by rw [eW]; exact g60 c63⟩⟩ | exact ⟨_, rfl, kS_tr s8 (kS_tr s41 (kS_tr s51 s60)), Or.inl ⟨by rw [eW], rfl, by rw [eW]; exact (n60 c63).2.1.1⟩⟩)
      · have hP8 := g8 c11
        have hF := PP_F T 1 (i + 1) hP8.2.1.2
        have hks := hP.2.2.1.2
        refine v_aload_n (pc := 14) dX7_takesFactor_14 rfl rfl ?_
        refine v_iload_n (pc := 15) dX7_takesFactor_15 rfl rfl ?_
        refine v_iconst (pc := 16) (v := nI 1) dX7_takesFactor_16 (by decide) ?_
        refine v_iaddN (pc := 17) dX7_takesFactor_17 ?_
        refine v_ci (pc := 18) (v_rV (c_X7_takesFactor_1 G l hT hP8) rfl kV_X7_98 (v_rcO hT.1 rfl (by decide)) ⟨Nat.le_of_ble_eq_true rfl, Nat.le_of_ble_eq_true rfl⟩ ⟨Nat.le_of_ble_eq_true rfl, Nat.le_of_ble_eq_true rfl⟩ dX7_takesFactor_18 (Nat.le_of_ble_eq_true rfl)) (fun x18 M18 h18 => ?_)
        skip
        obtain ⟨I18, rfl, s18, ⟨e1, rfl, e3⟩ | ⟨k, e1, rfl, e3⟩⟩ := h18
        · have eW : p_F T 2 i = ((p_F T 1 (i + 1)).1, none) := by rw [p_F_s, if_pos c11, p_b_n e1]
          refine v_if_neN (pc := 21) (tgt := 26) (by omega) dX7_takesFactor_21 (by decide) (fun c21 => ?_) (fun c21 => ?_)
          · exact absurd rfl c21
          · refine v_iconst (pc := 24) (v := nI 0) dX7_takesFactor_24 (by decide) ?_
            exact v_iret (pc := 25) dX7_takesFactor_25 rfl rfl (Nat.le_of_ble_eq_true rfl) (Nat.le_of_ble_eq_true rfl) ⟨_, rfl, kS_tr s8 s18, Or.inl ⟨by rw [eW], rfl, by rw [eW]; exact e3⟩⟩
        · have eW : p_F T 2 i = ((p_F T 1 (i + 1)).1, some (k ++ [0])) := by rw [p_F_s, if_pos c11, p_b_s e1]
          have hl9 := (hF.2.2 k e1).1
          refine v_if_neN (pc := 21) (tgt := 26) (by omega) dX7_takesFactor_21 (by decide) (fun c21 => ?_) (fun c21 => ?_)
          · refine v_aload_n (pc := 26) dX7_takesFactor_26 rfl rfl ?_
            refine v_iconst (pc := 27) (v := -1) dX7_takesFactor_27 (by decide) ?_
            refine v_cv (pc := 28) (v_rV (c_X7_keep G l hT e3 (k := 0) (by rw [List.length_append]; dsimp only; omega)) rfl kV_X7_94 (v_rcO hT.1 rfl (by decide)) ⟨Nat.le_of_ble_eq_true rfl, Nat.le_of_ble_eq_true rfl⟩ ⟨Nat.le_of_ble_eq_true rfl, Nat.le_of_ble_eq_true rfl⟩ dX7_takesFactor_28 (Nat.le_of_ble_eq_true rfl)) (fun M28 h28 => ?_)
            obtain ⟨I28, rfl, s28, q28⟩ := h28
            refine v_iconst (pc := 31) (v := nI 1) dX7_takesFactor_31 (by decide) ?_
            exact v_iret (pc := 32) dX7_takesFactor_32 rfl rfl (Nat.le_of_ble_eq_true rfl) (Nat.le_of_ble_eq_true rfl) ⟨_, rfl, kS_tr s8 (kS_tr s18 s28), Or.inr ⟨_, by rw [eW], rfl, by rw [eW]; rw [List.append_assoc] at q28; exact q28⟩⟩
          · exact absurd c21 (by decide)
abbrev rm_X7_takesBoth_2 : Room := { frames := 16, cells := 0, slots := 0, locals := 680 }
set_option maxRecDepth 20000 in
theorem c_X7_takesBoth_2 (G : v_G) (l : Launch) {K : Nat × v_TY} {I : Nat → Nat → Int32} {J : Nat → Nat → Int64} {R : Nat → Nat → Option Nat} {t : Nat} {T : List Nat} {i : Nat} {ks : List Nat} (hT : TH K R t) (hP : CP7 I t T i ks) : v_M G l yX7_takesBoth cX7_takesBoth 3 (some .boolean) rm_X7_takesBoth_2 [.ref t, .int (nI 2)] (K, I, J, R) (v_Qi G (fun (x : Int32) (M' : v_MM) => ∃ I', M' = (K, I', J, R) ∧ RS I t T ks (p_sq T 38 1 (p_F T 2) i) (fun k => k) x I')) := by
  refine v_of [some (.ref t), some (.int (nI 2)), none] (by decide) (Nat.le_of_ble_eq_true rfl) (Nat.le_of_ble_eq_true rfl) rfl ?_
  have key : ∀ n, n ≤ 100 → ∀ (Ij : Nat → Nat → Int32) (q : Nat) (acc : List Nat), CP7 Ij t T q (ks ++ acc) → kS t I Ij → i + acc.length ≤ q → p_lp T 38 1 (p_F T 2) (100 - n) q acc = p_sq T 38 1 (p_F T 2) i → v_V G l yX7_takesBoth cX7_takesBoth 3 (some .boolean) rm_X7_takesBoth_2 (v_Qi G (fun (x : Int32) (M' : v_MM) => ∃ I', M' = (K, I', J, R) ∧ RS I t T ks (p_sq T 38 1 (p_F T 2) i) (fun k => k) x I')) 0 0 12 [some (.ref t), some (.int (nI 2)), some (.int (nI n))] [] (K, Ij, J, R) := by
    refine v_down 100 (fun n hn ih => ?_)
    intro Ij q acc hQ hk hia he
    refine v_iload_n (pc := 12) dX7_takesBoth_12 rfl rfl ?_
    refine v_bipush (pc := 13) (v := nI 100) dX7_takesBoth_13 (by decide) ?_
    refine v_icmp_geN (pc := 15) (tgt := 49) ⟨by omega, by omega⟩ dX7_takesBoth_15 (by decide) (fun c15 => ?_) (fun c15 => ?_)
    · have eW : p_sq T 38 1 (p_F T 2) i = (q, some acc) := by rw [← he, show 100 - n = 0 by omega]; rfl
      have hQ9 := hQ
      have s9 := hk
      refine v_iconst (pc := 49) (v := nI 1) dX7_takesBoth_49 (by decide) ?_
      exact v_iret (pc := 50) dX7_takesBoth_50 rfl rfl (Nat.le_of_ble_eq_true rfl) (Nat.le_of_ble_eq_true rfl) ⟨_, rfl, s9, Or.inr ⟨_, by rw [eW], rfl, by rw [eW]; exact hQ9⟩⟩
    · refine v_aload_n (pc := 18) dX7_takesBoth_18 rfl rfl ?_
      refine v_bipush (pc := 19) (v := nI 38) dX7_takesBoth_19 (by decide) ?_
      refine v_ci (pc := 21) (v_rV (c_X7_takes G l hT hQ (c := 38) (by decide)) rfl kV_X7_47 (v_rcO hT.1 rfl (by decide)) ⟨Nat.le_of_ble_eq_true rfl, Nat.le_of_ble_eq_true rfl⟩ ⟨Nat.le_of_ble_eq_true rfl, Nat.le_of_ble_eq_true rfl⟩ dX7_takesBoth_21 (Nat.le_of_ble_eq_true rfl)) (fun x21 M21 h21 => ?_)
      obtain ⟨rfl, I21, rfl, s21, g21, n21⟩ := h21
      refine v_if_eqP (pc := 24) (tgt := 49) dX7_takesBoth_24 (by decide) (fun c24 => ?_) (fun c24 => ?_)
      · have eW : p_sq T 38 1 (p_F T 2) i = (q, some acc) := by rw [← he, p_lp_s (by omega), if_neg c24]
        have hQ9 := n21 c24
        have s9 := kS_tr hk s21
        refine v_iconst (pc := 49) (v := nI 1) dX7_takesBoth_49 (by decide) ?_
        exact v_iret (pc := 50) dX7_takesBoth_50 rfl rfl (Nat.le_of_ble_eq_true rfl) (Nat.le_of_ble_eq_true rfl) ⟨_, rfl, s9, Or.inr ⟨_, by rw [eW], rfl, by rw [eW]; exact hQ9⟩⟩
      · have hQ1 := g21 c24
        have hF := (PP_F T 2) (q + 1) hQ1.2.1.2
        have hks := hP.2.2.1.2
        refine v_aload_n (pc := 27) dX7_takesBoth_27 rfl rfl ?_
        refine v_iload_n (pc := 28) dX7_takesBoth_28 rfl rfl ?_
        refine v_ci (pc := 29) (v_rV (c_X7_takesFactor_2 G l hT hQ1) rfl kV_X7_98 (v_rcO hT.1 rfl (by decide)) ⟨Nat.le_of_ble_eq_true rfl, Nat.le_of_ble_eq_true rfl⟩ ⟨Nat.le_of_ble_eq_true rfl, Nat.le_of_ble_eq_true rfl⟩ dX7_takesBoth_29 (Nat.le_of_ble_eq_true rfl)) (fun x29 M29 h29 => ?_)
        skip
        obtain ⟨I29, rfl, s29, ⟨e1, rfl, e3⟩ | ⟨k2, e1, rfl, e3⟩⟩ := h29
        · have eW : p_sq T 38 1 (p_F T 2) i = ((p_F T 2 (q + 1)).1, none) := by rw [← he, p_lp_s (by omega), if_pos c24, p_b_n e1]
          refine v_if_neN (pc := 32) (tgt := 37) (by omega) dX7_takesBoth_32 (by decide) (fun c32 => ?_) (fun c32 => ?_)
          · exact absurd rfl c32
          · refine v_iconst (pc := 35) (v := nI 0) dX7_takesBoth_35 (by decide) ?_
            exact v_iret (pc := 36) dX7_takesBoth_36 rfl rfl (Nat.le_of_ble_eq_true rfl) (Nat.le_of_ble_eq_true rfl) ⟨_, rfl, kS_tr hk (kS_tr s21 s29), Or.inl ⟨by rw [eW], rfl, by rw [eW]; exact e3⟩⟩
        · have hl9 := (hF.2.2 k2 e1).1
          refine v_if_neN (pc := 32) (tgt := 37) (by omega) dX7_takesBoth_32 (by decide) (fun c32 => ?_) (fun c32 => ?_)
          · refine v_aload_n (pc := 37) dX7_takesBoth_37 rfl rfl ?_
            refine v_bipush (pc := 38) (v := -2) dX7_takesBoth_38 (by decide) ?_
            refine v_cv (pc := 40) (v_rV (c_X7_keep G l hT e3 (k := 1) (by rw [List.length_append, List.length_append]; dsimp only; omega)) rfl kV_X7_94 (v_rcO hT.1 rfl (by decide)) ⟨Nat.le_of_ble_eq_true rfl, Nat.le_of_ble_eq_true rfl⟩ ⟨Nat.le_of_ble_eq_true rfl, Nat.le_of_ble_eq_true rfl⟩ dX7_takesBoth_40 (Nat.le_of_ble_eq_true rfl)) (fun M40 h40 => ?_)
            obtain ⟨I40, rfl, s40, q40⟩ := h40
            refine v_iincN (pc := 43) (b := 1) dX7_takesBoth_43 rfl (by decide) (by decide) rfl ?_
            refine v_goto (pc := 46) (tgt := 12) dX7_takesBoth_46 (by decide) ?_
            exact ih (n + 1) (by omega) (by omega) I40 _ (acc ++ k2 ++ [1]) (by rw [List.append_assoc, List.append_assoc, ← List.append_assoc acc, ← List.append_assoc ks] at q40; rw [← List.append_assoc]; exact q40) (kS_tr hk (kS_tr s21 (kS_tr s29 s40))) (by rw [List.length_append, List.length_append]; show i + (_ + _ + 1) ≤ _; omega) (by rw [← he, p_lp_s (n := n) (by omega), if_pos c24, p_b_s e1])
          · exact absurd c32 (by decide)
  · refine v_aload_n (pc := 0) dX7_takesBoth_0 rfl rfl ?_
    refine v_iload_n (pc := 1) dX7_takesBoth_1 rfl rfl ?_
    refine v_ci (pc := 2) (v_rV (c_X7_takesFactor_2 G l hT hP) rfl kV_X7_98 (v_rcO hT.1 rfl (by decide)) ⟨Nat.le_of_ble_eq_true rfl, Nat.le_of_ble_eq_true rfl⟩ ⟨Nat.le_of_ble_eq_true rfl, Nat.le_of_ble_eq_true rfl⟩ dX7_takesBoth_2 (Nat.le_of_ble_eq_true rfl)) (fun x2 M2 h2 => ?_)
    skip
    obtain ⟨I2, rfl, s2, ⟨e1, rfl, e3⟩ | ⟨k, e1, rfl, e3⟩⟩ := h2
    · have eW : p_sq T 38 1 (p_F T 2) i = ((p_F T 2 i).1, none) := p_b_n e1
      refine v_if_neN (pc := 5) (tgt := 10) (by omega) dX7_takesBoth_5 (by decide) (fun c5 => ?_) (fun c5 => ?_)
      · exact absurd rfl c5
      · refine v_iconst (pc := 8) (v := nI 0) dX7_takesBoth_8 (by decide) ?_
        exact v_iret (pc := 9) dX7_takesBoth_9 rfl rfl (Nat.le_of_ble_eq_true rfl) (Nat.le_of_ble_eq_true rfl) ⟨_, rfl, s2, Or.inl ⟨by rw [eW], rfl, by rw [eW]; exact e3⟩⟩
    · refine v_if_neN (pc := 5) (tgt := 10) (by omega) dX7_takesBoth_5 (by decide) (fun c5 => ?_) (fun c5 => ?_)
      · refine v_iconst (pc := 10) (v := nI 0) dX7_takesBoth_10 (by decide) ?_
        refine v_istore_n (pc := 11) dX7_takesBoth_11 rfl (by decide) rfl ?_
        exact key 0 (by decide) I2 _ k e3 s2 ((PP_F T 2) i hP.2.1.2 |>.2.2 k e1).1 (p_b_s e1).symm
      · exact absurd c5 (by decide)
abbrev rm_X7_takesEither_2 : Room := { frames := 17, cells := 0, slots := 0, locals := 720 }
set_option maxRecDepth 20000 in
theorem c_X7_takesEither_2 (G : v_G) (l : Launch) {K : Nat × v_TY} {I : Nat → Nat → Int32} {J : Nat → Nat → Int64} {R : Nat → Nat → Option Nat} {t : Nat} {T : List Nat} {i : Nat} {ks : List Nat} (hT : TH K R t) (hP : CP7 I t T i ks) : v_M G l yX7_takesEither cX7_takesEither 3 (some .boolean) rm_X7_takesEither_2 [.ref t, .int (nI 2)] (K, I, J, R) (v_Qi G (fun (x : Int32) (M' : v_MM) => ∃ I', M' = (K, I', J, R) ∧ RS I t T ks (p_E T 2 i) (fun k => k) x I')) := by
  refine v_of [some (.ref t), some (.int (nI 2)), none] (by decide) (Nat.le_of_ble_eq_true rfl) (Nat.le_of_ble_eq_true rfl) rfl ?_
  have key : ∀ n, n ≤ 100 → ∀ (Ij : Nat → Nat → Int32) (q : Nat) (acc : List Nat), CP7 Ij t T q (ks ++ acc) → kS t I Ij → i + acc.length ≤ q → p_lp T 124 2 (p_sq T 38 1 (p_F T 2)) (100 - n) q acc = p_E T 2 i → v_V G l yX7_takesEither cX7_takesEither 3 (some .boolean) rm_X7_takesEither_2 (v_Qi G (fun (x : Int32) (M' : v_MM) => ∃ I', M' = (K, I', J, R) ∧ RS I t T ks (p_E T 2 i) (fun k => k) x I')) 0 0 12 [some (.ref t), some (.int (nI 2)), some (.int (nI n))] [] (K, Ij, J, R) := by
    refine v_down 100 (fun n hn ih => ?_)
    intro Ij q acc hQ hk hia he
    refine v_iload_n (pc := 12) dX7_takesEither_12 rfl rfl ?_
    refine v_bipush (pc := 13) (v := nI 100) dX7_takesEither_13 (by decide) ?_
    refine v_icmp_geN (pc := 15) (tgt := 49) ⟨by omega, by omega⟩ dX7_takesEither_15 (by decide) (fun c15 => ?_) (fun c15 => ?_)
    · have eW : p_E T 2 i = (q, some acc) := by rw [← he, show 100 - n = 0 by omega]; rfl
      have hQ9 := hQ
      have s9 := hk
      refine v_iconst (pc := 49) (v := nI 1) dX7_takesEither_49 (by decide) ?_
      exact v_iret (pc := 50) dX7_takesEither_50 rfl rfl (Nat.le_of_ble_eq_true rfl) (Nat.le_of_ble_eq_true rfl) ⟨_, rfl, s9, Or.inr ⟨_, by rw [eW], rfl, by rw [eW]; exact hQ9⟩⟩
    · refine v_aload_n (pc := 18) dX7_takesEither_18 rfl rfl ?_
      refine v_bipush (pc := 19) (v := nI 124) dX7_takesEither_19 (by decide) ?_
      refine v_ci (pc := 21) (v_rV (c_X7_takes G l hT hQ (c := 124) (by decide)) rfl kV_X7_47 (v_rcO hT.1 rfl (by decide)) ⟨Nat.le_of_ble_eq_true rfl, Nat.le_of_ble_eq_true rfl⟩ ⟨Nat.le_of_ble_eq_true rfl, Nat.le_of_ble_eq_true rfl⟩ dX7_takesEither_21 (Nat.le_of_ble_eq_true rfl)) (fun x21 M21 h21 => ?_)
      obtain ⟨rfl, I21, rfl, s21, g21, n21⟩ := h21
      refine v_if_eqP (pc := 24) (tgt := 49) dX7_takesEither_24 (by decide) (fun c24 => ?_) (fun c24 => ?_)
      · have eW : p_E T 2 i = (q, some acc) := by rw [← he, p_lp_s (by omega), if_neg c24]
        have hQ9 := n21 c24
        have s9 := kS_tr hk s21
        refine v_iconst (pc := 49) (v := nI 1) dX7_takesEither_49 (by decide) ?_
        exact v_iret (pc := 50) dX7_takesEither_50 rfl rfl (Nat.le_of_ble_eq_true rfl) (Nat.le_of_ble_eq_true rfl) ⟨_, rfl, s9, Or.inr ⟨_, by rw [eW], rfl, by rw [eW]; exact hQ9⟩⟩
      · have hQ1 := g21 c24
        have hF := (PP_sq (T := T) (sep := 38) (op := 1) (PP_F T 2) (by decide) (Or.inl rfl)) (q + 1) hQ1.2.1.2
        have hks := hP.2.2.1.2
        refine v_aload_n (pc := 27) dX7_takesEither_27 rfl rfl ?_
        refine v_iload_n (pc := 28) dX7_takesEither_28 rfl rfl ?_
        refine v_ci (pc := 29) (v_rV (c_X7_takesBoth_2 G l hT hQ1) rfl kV_X7_91 (v_rcO hT.1 rfl (by decide)) ⟨Nat.le_of_ble_eq_true rfl, Nat.le_of_ble_eq_true rfl⟩ ⟨Nat.le_of_ble_eq_true rfl, Nat.le_of_ble_eq_true rfl⟩ dX7_takesEither_29 (Nat.le_of_ble_eq_true rfl)) (fun x29 M29 h29 => ?_)
        skip
        obtain ⟨I29, rfl, s29, ⟨e1, rfl, e3⟩ | ⟨k2, e1, rfl, e3⟩⟩ := h29
        · have eW : p_E T 2 i = ((p_sq T 38 1 (p_F T 2) (q + 1)).1, none) := by rw [← he, p_lp_s (by omega), if_pos c24, p_b_n e1]
          refine v_if_neN (pc := 32) (tgt := 37) (by omega) dX7_takesEither_32 (by decide) (fun c32 => ?_) (fun c32 => ?_)
          · exact absurd rfl c32
          · refine v_iconst (pc := 35) (v := nI 0) dX7_takesEither_35 (by decide) ?_
            exact v_iret (pc := 36) dX7_takesEither_36 rfl rfl (Nat.le_of_ble_eq_true rfl) (Nat.le_of_ble_eq_true rfl) ⟨_, rfl, kS_tr hk (kS_tr s21 s29), Or.inl ⟨by rw [eW], rfl, by rw [eW]; exact e3⟩⟩
        · have hl9 := (hF.2.2 k2 e1).1
          refine v_if_neN (pc := 32) (tgt := 37) (by omega) dX7_takesEither_32 (by decide) (fun c32 => ?_) (fun c32 => ?_)
          · refine v_aload_n (pc := 37) dX7_takesEither_37 rfl rfl ?_
            refine v_bipush (pc := 38) (v := -3) dX7_takesEither_38 (by decide) ?_
            refine v_cv (pc := 40) (v_rV (c_X7_keep G l hT e3 (k := 2) (by rw [List.length_append, List.length_append]; dsimp only; omega)) rfl kV_X7_94 (v_rcO hT.1 rfl (by decide)) ⟨Nat.le_of_ble_eq_true rfl, Nat.le_of_ble_eq_true rfl⟩ ⟨Nat.le_of_ble_eq_true rfl, Nat.le_of_ble_eq_true rfl⟩ dX7_takesEither_40 (Nat.le_of_ble_eq_true rfl)) (fun M40 h40 => ?_)
            obtain ⟨I40, rfl, s40, q40⟩ := h40
            refine v_iincN (pc := 43) (b := 1) dX7_takesEither_43 rfl (by decide) (by decide) rfl ?_
            refine v_goto (pc := 46) (tgt := 12) dX7_takesEither_46 (by decide) ?_
            exact ih (n + 1) (by omega) (by omega) I40 _ (acc ++ k2 ++ [2]) (by rw [List.append_assoc, List.append_assoc, ← List.append_assoc acc, ← List.append_assoc ks] at q40; rw [← List.append_assoc]; exact q40) (kS_tr hk (kS_tr s21 (kS_tr s29 s40))) (by rw [List.length_append, List.length_append]; show i + (_ + _ + 1) ≤ _; omega) (by rw [← he, p_lp_s (n := n) (by omega), if_pos c24, p_b_s e1])
          · exact absurd c32 (by decide)
  · refine v_aload_n (pc := 0) dX7_takesEither_0 rfl rfl ?_
    refine v_iload_n (pc := 1) dX7_takesEither_1 rfl rfl ?_
    refine v_ci (pc := 2) (v_rV (c_X7_takesBoth_2 G l hT hP) rfl kV_X7_91 (v_rcO hT.1 rfl (by decide)) ⟨Nat.le_of_ble_eq_true rfl, Nat.le_of_ble_eq_true rfl⟩ ⟨Nat.le_of_ble_eq_true rfl, Nat.le_of_ble_eq_true rfl⟩ dX7_takesEither_2 (Nat.le_of_ble_eq_true rfl)) (fun x2 M2 h2 => ?_)
    skip
    obtain ⟨I2, rfl, s2, ⟨e1, rfl, e3⟩ | ⟨k, e1, rfl, e3⟩⟩ := h2
    · have eW : p_E T 2 i = ((p_sq T 38 1 (p_F T 2) i).1, none) := p_b_n e1
      refine v_if_neN (pc := 5) (tgt := 10) (by omega) dX7_takesEither_5 (by decide) (fun c5 => ?_) (fun c5 => ?_)
      · exact absurd rfl c5
      · refine v_iconst (pc := 8) (v := nI 0) dX7_takesEither_8 (by decide) ?_
        exact v_iret (pc := 9) dX7_takesEither_9 rfl rfl (Nat.le_of_ble_eq_true rfl) (Nat.le_of_ble_eq_true rfl) ⟨_, rfl, s2, Or.inl ⟨by rw [eW], rfl, by rw [eW]; exact e3⟩⟩
    · refine v_if_neN (pc := 5) (tgt := 10) (by omega) dX7_takesEither_5 (by decide) (fun c5 => ?_) (fun c5 => ?_)
      · refine v_iconst (pc := 10) (v := nI 0) dX7_takesEither_10 (by decide) ?_
        refine v_istore_n (pc := 11) dX7_takesEither_11 rfl (by decide) rfl ?_
        exact key 0 (by decide) I2 _ k e3 s2 ((PP_sq (T := T) (sep := 38) (op := 1) (PP_F T 2) (by decide) (Or.inl rfl)) i hP.2.1.2 |>.2.2 k e1).1 (p_b_s e1).symm
      · exact absurd c5 (by decide)
abbrev rm_X7_takesFactor_3 : Room := { frames := 18, cells := 0, slots := 0, locals := 760 }
set_option maxRecDepth 20000 in
theorem c_X7_takesFactor_3 (G : v_G) (l : Launch) {K : Nat × v_TY} {I : Nat → Nat → Int32} {J : Nat → Nat → Int64} {R : Nat → Nat → Option Nat} {t : Nat} {T : List Nat} {i : Nat} {ks : List Nat} (hT : TH K R t) (hP : CP7 I t T i ks) : v_M G l yX7_takesFactor cX7_takesFactor 5 (some .boolean) rm_X7_takesFactor_3 [.ref t, .int (nI 1)] (K, I, J, R) (v_Qi G (fun (x : Int32) (M' : v_MM) => ∃ I', M' = (K, I', J, R) ∧ RS I t T ks (p_F T 3 i) (fun k => k) x I')) := by
  refine v_of [some (.ref t), some (.int (nI 1)), none, none, none] (by decide) (Nat.le_of_ble_eq_true rfl) (Nat.le_of_ble_eq_true rfl) rfl ?_
  have tst : ∀ (I2 : Nat → Nat → Int32), CP7 I2 t T i ks → kS t I I2 → p_F T 3 i = p_tst T i → v_V G l yX7_takesFactor cX7_takesFactor 5 (some .boolean) rm_X7_takesFactor_3 (v_Qi G (fun (x : Int32) (M' : v_MM) => ∃ I', M' = (K, I', J, R) ∧ RS I t T ks (p_F T 3 i) (fun k => k) x I')) 0 0 72 [some (.ref t), some (.int (nI 1)), none, none, none] [] (K, I2, J, R) := by
    intro I2 hQ hk e0
    refine v_aload_n (pc := 72) dX7_takesFactor_72 rfl rfl ?_
    refine v_ldcS (pc := 73) (i := 5) (tx := "abfdey") (List.mem_of_getElem? (i := 0) rfl) dX7_takesFactor_73 ?_
    refine v_ci (pc := 75) (v_rV (c_X7_takenOneOf G l hT hQ (u := 5) (by decide)) rfl kV_X7_67 (v_rcO hT.1 rfl (by decide)) ⟨Nat.le_of_ble_eq_true rfl, Nat.le_of_ble_eq_true rfl⟩ ⟨Nat.le_of_ble_eq_true rfl, Nat.le_of_ble_eq_true rfl⟩ dX7_takesFactor_75 (Nat.le_of_ble_eq_true rfl)) (fun x75 M75 h75 => ?_)
    obtain ⟨rfl, I75, rfl, s75, g75, n75⟩ := h75
    have hx5 := CP7_tx hQ i
    rw [t_ix5 _ hx5] at g75 n75 ⊢
    rcases e5 : p_le (tx T i) with _ | f <;> rw [e5] at g75 n75
    · have eW : p_F T 3 i = (i, none) := e0.trans (p_tst0 e5)
      have eQ := (g75 (by decide)).2.1.1
      refine v_istore_n (pc := 78) dX7_takesFactor_78 rfl (by decide) rfl ?_
      refine v_iload_n (pc := 79) dX7_takesFactor_79 rfl rfl ?_
      refine v_if_ge (pc := 80) (tgt := 87) dX7_takesFactor_80 (by decide) (fun c80 => ?_) (fun c80 => ?_)
      · exact absurd c80 (by decide)
      · refine v_iconst (pc := 83) (v := -1) dX7_takesFactor_83 (by decide) ?_
        refine v_goto (pc := 84) (tgt := 93) dX7_takesFactor_84 (by decide) ?_
        refine v_istore_n (pc := 93) dX7_takesFactor_93 rfl (by decide) rfl ?_
        refine v_iload_n (pc := 94) dX7_takesFactor_94 rfl rfl ?_
        refine v_if_ge (pc := 95) (tgt := 102) dX7_takesFactor_95 (by decide) (fun c95 => ?_) (fun c95 => ?_)
        · exact absurd c95 (by decide)
        · refine v_iconst (pc := 98) (v := -1) dX7_takesFactor_98 (by decide) ?_
          refine v_goto (pc := 99) (tgt := 106) dX7_takesFactor_99 (by decide) ?_
          refine v_istore (pc := 106) dX7_takesFactor_106 (by decide) rfl ?_
          refine v_iload (pc := 108) dX7_takesFactor_108 rfl ?_
          refine v_if_ge (pc := 110) (tgt := 115) dX7_takesFactor_110 (by decide) (fun c110 => ?_) (fun c110 => ?_)
          · exact absurd c110 (by decide)
          · refine v_iconst (pc := 113) (v := nI 0) dX7_takesFactor_113 (by decide) ?_
            exact v_iret (pc := 114) dX7_takesFactor_114 rfl rfl (Nat.le_of_ble_eq_true rfl) (Nat.le_of_ble_eq_true rfl) ⟨_, rfl, kS_tr hk s75, Or.inl ⟨by rw [eW], rfl, by rw [eW]; exact eQ⟩⟩
    · have f6 := (p_le_ok e5).1
      have hQ1 := n75 (nn_i (by omega))
      refine v_istore_n (pc := 78) dX7_takesFactor_78 rfl (by decide) rfl ?_
      refine v_iload_n (pc := 79) dX7_takesFactor_79 rfl rfl ?_
      refine v_if_geN (pc := 80) (tgt := 87) (by omega) dX7_takesFactor_80 (by decide) ?_
      refine v_aload_n (pc := 87) dX7_takesFactor_87 rfl rfl ?_
      refine v_ldcS (pc := 88) (i := 6) (tx := "<=>") (List.mem_of_getElem? (i := 1) rfl) dX7_takesFactor_88 ?_
      refine v_ci (pc := 90) (v_rV (c_X7_takenOneOf G l hT hQ1 (u := 6) (by decide)) rfl kV_X7_67 (v_rcO hT.1 rfl (by decide)) ⟨Nat.le_of_ble_eq_true rfl, Nat.le_of_ble_eq_true rfl⟩ ⟨Nat.le_of_ble_eq_true rfl, Nat.le_of_ble_eq_true rfl⟩ dX7_takesFactor_90 (Nat.le_of_ble_eq_true rfl)) (fun x90 M90 h90 => ?_)
      obtain ⟨rfl, I90, rfl, s90, g90, n90⟩ := h90
      have hx6 := CP7_tx hQ1 (i + 1)
      rw [t_ix6 _ hx6] at g90 n90 ⊢
      by_cases d2 : 60 ≤ tx T (i + 1) ∧ tx T (i + 1) ≤ 62
      · rw [if_pos d2] at g90 n90 ⊢
        have hQ2 := n90 (nn_i (by omega))
        have hnm := p_num_ok hQ2.2.1.2
        have e8 := p_tst2 e5 d2
        obtain ⟨s9, hs9⟩ : ∃ s9, tx T (i + 1) - 60 = s9 := ⟨_, rfl⟩
        rw [hs9] at e8 ⊢
        refine v_istore_n (pc := 93) dX7_takesFactor_93 rfl (by decide) rfl ?_
        refine v_iload_n (pc := 94) dX7_takesFactor_94 rfl rfl ?_
        refine v_if_geN (pc := 95) (tgt := 102) (by omega) dX7_takesFactor_95 (by decide) ?_
        refine v_aload_n (pc := 102) dX7_takesFactor_102 rfl rfl ?_
        refine v_ci (pc := 103) (v_rV (c_X7_takenNumber G l hT hQ2) rfl kV_X7_59 (v_rcO hT.1 rfl (by decide)) ⟨Nat.le_of_ble_eq_true rfl, Nat.le_of_ble_eq_true rfl⟩ ⟨Nat.le_of_ble_eq_true rfl, Nat.le_of_ble_eq_true rfl⟩ dX7_takesFactor_103 (Nat.le_of_ble_eq_true rfl)) (fun x103 M103 h103 => ?_)
        obtain ⟨rfl, I103, rfl, s103, q103⟩ := h103
        rcases e7 : (p_num T (i + 2)).2 with _ | d
        · have eW : p_F T 3 i = ((p_num T (i + 2)).1, none) := e0.trans (e8.trans (p_b_n e7))
          have eQ := q103.2.1.1
          refine v_istore (pc := 106) dX7_takesFactor_106 (by decide) rfl ?_
          refine v_iload (pc := 108) dX7_takesFactor_108 rfl ?_
          refine v_if_ge (pc := 110) (tgt := 115) dX7_takesFactor_110 (by decide) (fun c110 => ?_) (fun c110 => ?_)
          · exact absurd c110 (by decide)
          · refine v_iconst (pc := 113) (v := nI 0) dX7_takesFactor_113 (by decide) ?_
            exact v_iret (pc := 114) dX7_takesFactor_114 rfl rfl (Nat.le_of_ble_eq_true rfl) (Nat.le_of_ble_eq_true rfl) ⟨_, rfl, kS_tr hk (kS_tr s75 (kS_tr s90 s103)), Or.inl ⟨by rw [eW], rfl, by rw [eW]; exact eQ⟩⟩
        · have hd9 := hnm.2.2 d e7
          have eW : p_F T 3 i = ((p_num T (i + 2)).1, some [300 * f + 100 * s9 + d + 3]) := e0.trans (e8.trans (p_b_s e7))
          have hl9 := hQ.2.2.1.2
          show v_V G l _ _ _ _ _ _ _ _ _ _ (.int (nI d) :: _) _
          refine v_istore (pc := 106) dX7_takesFactor_106 (by decide) rfl ?_
          refine v_iload (pc := 108) dX7_takesFactor_108 rfl ?_
          refine v_if_geN (pc := 110) (tgt := 115) (by omega) dX7_takesFactor_110 (by decide) ?_
          refine v_aload_n (pc := 115) dX7_takesFactor_115 rfl rfl ?_
          refine v_iload_n (pc := 116) dX7_takesFactor_116 rfl rfl ?_
          refine v_iconst (pc := 117) (v := nI 3) dX7_takesFactor_117 (by decide) ?_
          refine v_imulN (pc := 118) dX7_takesFactor_118 ?_
          refine v_iload_n (pc := 119) dX7_takesFactor_119 rfl rfl ?_
          refine v_iaddN (pc := 120) dX7_takesFactor_120 ?_
          refine v_bipush (pc := 121) (v := nI 100) dX7_takesFactor_121 (by decide) ?_
          refine v_imulN (pc := 123) dX7_takesFactor_123 ?_
          refine v_iload (pc := 124) dX7_takesFactor_124 rfl ?_
          refine v_iaddN (pc := 126) dX7_takesFactor_126 ?_
          refine v_top c_tk ?_
          refine v_cv (pc := 127) (v_rV (c_X7_keep G l hT q103 (by omega)) rfl kV_X7_94 (v_rcO hT.1 rfl (by decide)) ⟨Nat.le_of_ble_eq_true rfl, Nat.le_of_ble_eq_true rfl⟩ ⟨Nat.le_of_ble_eq_true rfl, Nat.le_of_ble_eq_true rfl⟩ dX7_takesFactor_127 (Nat.le_of_ble_eq_true rfl)) (fun M127 h127 => ?_)
          obtain ⟨I127, rfl, s127, q127⟩ := h127
          refine v_iconst (pc := 130) (v := nI 1) dX7_takesFactor_130 (by decide) ?_
          exact v_iret (pc := 131) dX7_takesFactor_131 rfl rfl (Nat.le_of_ble_eq_true rfl) (Nat.le_of_ble_eq_true rfl) ⟨_, rfl, kS_tr hk (kS_tr s75 (kS_tr s90 (kS_tr s103 s127))), Or.inr ⟨_, by rw [eW], rfl, by rw [eW]; exact q127⟩⟩
      · rw [if_neg d2] at g90 n90 ⊢
        have eW : p_F T 3 i = (i + 1, none) := e0.trans (p_tst1 e5 d2)
        have eQ := (g90 (by decide)).2.1.1
        refine v_istore_n (pc := 93) dX7_takesFactor_93 rfl (by decide) rfl ?_
        refine v_iload_n (pc := 94) dX7_takesFactor_94 rfl rfl ?_
        refine v_if_ge (pc := 95) (tgt := 102) dX7_takesFactor_95 (by decide) (fun c95 => ?_) (fun c95 => ?_)
        · exact absurd c95 (by decide)
        · refine v_iconst (pc := 98) (v := -1) dX7_takesFactor_98 (by decide) ?_
          refine v_goto (pc := 99) (tgt := 106) dX7_takesFactor_99 (by decide) ?_
          refine v_istore (pc := 106) dX7_takesFactor_106 (by decide) rfl ?_
          refine v_iload (pc := 108) dX7_takesFactor_108 rfl ?_
          refine v_if_ge (pc := 110) (tgt := 115) dX7_takesFactor_110 (by decide) (fun c110 => ?_) (fun c110 => ?_)
          · exact absurd c110 (by decide)
          · refine v_iconst (pc := 113) (v := nI 0) dX7_takesFactor_113 (by decide) ?_
            exact v_iret (pc := 114) dX7_takesFactor_114 rfl rfl (Nat.le_of_ble_eq_true rfl) (Nat.le_of_ble_eq_true rfl) ⟨_, rfl, kS_tr hk (kS_tr s75 s90), Or.inl ⟨by rw [eW], rfl, by rw [eW]; exact eQ⟩⟩
  · refine v_iload_n (pc := 0) dX7_takesFactor_0 rfl rfl ?_
    refine v_iconst (pc := 1) (v := nI 4) dX7_takesFactor_1 (by decide) ?_
    refine v_icmp_geN (pc := 2) (tgt := 33) ⟨by omega, by omega⟩ dX7_takesFactor_2 (by decide) (fun c2 => ?_) (fun c2 => ?_)
    · exact absurd c2 (by decide)
    · refine v_aload_n (pc := 5) dX7_takesFactor_5 rfl rfl ?_
      refine v_bipush (pc := 6) (v := nI 33) dX7_takesFactor_6 (by decide) ?_
      refine v_ci (pc := 8) (v_rV (c_X7_takes G l hT hP (c := 33) (by decide)) rfl kV_X7_47 (v_rcO hT.1 rfl (by decide)) ⟨Nat.le_of_ble_eq_true rfl, Nat.le_of_ble_eq_true rfl⟩ ⟨Nat.le_of_ble_eq_true rfl, Nat.le_of_ble_eq_true rfl⟩ dX7_takesFactor_8 (Nat.le_of_ble_eq_true rfl)) (fun x8 M8 h8 => ?_)
      obtain ⟨rfl, I8, rfl, s8, g8, n8⟩ := h8
      refine v_if_eqP (pc := 11) (tgt := 33) dX7_takesFactor_11 (by decide) (fun c11 => ?_) (fun c11 => ?_)
      · have hP8 := n8 c11
        refine v_iload_n (pc := 33) dX7_takesFactor_33 rfl rfl ?_
        refine v_iconst (pc := 34) (v := nI 4) dX7_takesFactor_34 (by decide) ?_
        refine v_icmp_geN (pc := 35) (tgt := 72) ⟨by omega, by omega⟩ dX7_takesFactor_35 (by decide) (fun c35 => ?_) (fun c35 => ?_)
        · exact absurd c35 (by decide)
        · refine v_aload_n (pc := 38) dX7_takesFactor_38 rfl rfl ?_
          refine v_bipush (pc := 39) (v := nI 40) dX7_takesFactor_39 (by decide) ?_
          refine v_ci (pc := 41) (v_rV (c_X7_takes G l hT hP8 (c := 40) (by decide)) rfl kV_X7_47 (v_rcO hT.1 rfl (by decide)) ⟨Nat.le_of_ble_eq_true rfl, Nat.le_of_ble_eq_true rfl⟩ ⟨Nat.le_of_ble_eq_true rfl, Nat.le_of_ble_eq_true rfl⟩ dX7_takesFactor_41 (Nat.le_of_ble_eq_true rfl)) (fun x41 M41 h41 => ?_)
          obtain ⟨rfl, I41, rfl, s41, g41, n41⟩ := h41
          refine v_if_eqP (pc := 44) (tgt := 72) dX7_takesFactor_44 (by decide) (fun c44 => ?_) (fun c44 => ?_)
          · have hP41 := n41 c44
            exact tst I41 hP41 (kS_tr s8 s41) (by rw [p_F_s, if_neg c11, if_neg c44])
          · have hP41 := g41 c44
            refine v_aload_n (pc := 47) dX7_takesFactor_47 rfl rfl ?_
            refine v_iload_n (pc := 48) dX7_takesFactor_48 rfl rfl ?_
            refine v_iconst (pc := 49) (v := nI 1) dX7_takesFactor_49 (by decide) ?_
            refine v_iaddN (pc := 50) dX7_takesFactor_50 ?_
            refine v_ci (pc := 51) (v_rV (c_X7_takesEither_2 G l hT hP41) rfl kV_X7_62 (v_rcO hT.1 rfl (by decide)) ⟨Nat.le_of_ble_eq_true rfl, Nat.le_of_ble_eq_true rfl⟩ ⟨Nat.le_of_ble_eq_true rfl, Nat.le_of_ble_eq_true rfl⟩ dX7_takesFactor_51 (Nat.le_of_ble_eq_true rfl)) (fun x51 M51 h51 => ?_)
            skip
            obtain ⟨I51, rfl, s51, ⟨e1, rfl, e3⟩ | ⟨k, e1, rfl, e3⟩⟩ := h51
            · have eW : p_F T 3 i = ((p_E T 2 (i + 1)).1, none) := by rw [p_F_s, if_neg c11, if_pos c44, p_b_n e1]
              refine v_if_eqN (pc := 54) (tgt := 70) (by omega) dX7_takesFactor_54 (by decide) (fun c54 => ?_) (fun c54 => ?_)
              · refine v_iconst (pc := 70) (v := nI 0) dX7_takesFactor_70 (by decide) ?_
                exact v_iret (pc := 71) dX7_takesFactor_71 rfl rfl (Nat.le_of_ble_eq_true rfl) (Nat.le_of_ble_eq_true rfl) ⟨_, rfl, kS_tr s8 (kS_tr s41 s51), Or.inl ⟨by rw [eW], rfl, by rw [eW]; exact e3⟩⟩
              · exact absurd rfl c54
            · refine v_if_eqN (pc := 54) (tgt := 70) (by omega) dX7_takesFactor_54 (by decide) (fun c54 => ?_) (fun c54 => ?_)
              · exact absurd c54 (by decide)
              · refine v_aload_n (pc := 57) dX7_takesFactor_57 rfl rfl ?_
                refine v_bipush (pc := 58) (v := nI 41) dX7_takesFactor_58 (by decide) ?_
                refine v_ci (pc := 60) (v_rV (c_X7_takes G l hT e3 (c := 41) (by decide)) rfl kV_X7_47 (v_rcO hT.1 rfl (by decide)) ⟨Nat.le_of_ble_eq_true rfl, Nat.le_of_ble_eq_true rfl⟩ ⟨Nat.le_of_ble_eq_true rfl, Nat.le_of_ble_eq_true rfl⟩ dX7_takesFactor_60 (Nat.le_of_ble_eq_true rfl)) (fun x60 M60 h60 => ?_)
                obtain ⟨rfl, I60, rfl, s60, g60, n60⟩ := h60
                refine v_if_eqP (pc := 63) (tgt := 70) dX7_takesFactor_63 (by decide) (fun c63 => ?_) (fun c63 => ?_)
                · have eW : p_F T 3 i = ((p_E T 2 (i + 1)).1, none) := by rw [p_F_s, if_neg c11, if_pos c44, p_b_s e1, if_neg c63]
                  refine v_iconst (pc := 70) (v := nI 0) dX7_takesFactor_70 (by decide) ?_
                  exact v_iret (pc := 71) dX7_takesFactor_71 rfl rfl (Nat.le_of_ble_eq_true rfl) (Nat.le_of_ble_eq_true rfl) (by first | exact ⟨_, rfl, kS_tr s8 (kS_tr s41 (kS_tr s51 s60)), Or.inr ⟨_, by rw [eW], rfl, by rw [eW]; exact g60 c63⟩⟩ | exact ⟨_, rfl, kS_tr s8 (kS_tr s41 (kS_tr s51 s60)), Or.inl ⟨by rw [eW], rfl, by rw [eW]; exact (n60 c63).2.1.1⟩⟩)
                · have eW : p_F T 3 i = ((p_E T 2 (i + 1)).1 + 1, some k) := by rw [p_F_s, if_neg c11, if_pos c44, p_b_s e1, if_pos c63]
                  refine v_iconst (pc := 66) (v := nI 1) dX7_takesFactor_66 (by decide) ?_
                  refine v_goto (pc := 67) (tgt := 71) dX7_takesFactor_67 (by decide) ?_
                  exact v_iret (pc := 71) dX7_takesFactor_71 rfl rfl (Nat.le_of_ble_eq_true rfl) (Nat.le_of_ble_eq_true rfl) (by first | exact ⟨_, rfl, kS_tr s8 (kS_tr s41 (kS_tr s51 s60)), Or.inr ⟨_, by rw [eW], rfl, by rw [eW]; exact g60 c63⟩⟩ | exact ⟨_, rfl, kS_tr s8 (kS_tr s41 (kS_tr s51 s60)), Or.inl ⟨by rw [eW], rfl, by rw [eW]; exact (n60 c63).2.1.1⟩⟩)
      · have hP8 := g8 c11
        have hF := PP_F T 2 (i + 1) hP8.2.1.2
        have hks := hP.2.2.1.2
        refine v_aload_n (pc := 14) dX7_takesFactor_14 rfl rfl ?_
        refine v_iload_n (pc := 15) dX7_takesFactor_15 rfl rfl ?_
        refine v_iconst (pc := 16) (v := nI 1) dX7_takesFactor_16 (by decide) ?_
        refine v_iaddN (pc := 17) dX7_takesFactor_17 ?_
        refine v_ci (pc := 18) (v_rV (c_X7_takesFactor_2 G l hT hP8) rfl kV_X7_98 (v_rcO hT.1 rfl (by decide)) ⟨Nat.le_of_ble_eq_true rfl, Nat.le_of_ble_eq_true rfl⟩ ⟨Nat.le_of_ble_eq_true rfl, Nat.le_of_ble_eq_true rfl⟩ dX7_takesFactor_18 (Nat.le_of_ble_eq_true rfl)) (fun x18 M18 h18 => ?_)
        skip
        obtain ⟨I18, rfl, s18, ⟨e1, rfl, e3⟩ | ⟨k, e1, rfl, e3⟩⟩ := h18
        · have eW : p_F T 3 i = ((p_F T 2 (i + 1)).1, none) := by rw [p_F_s, if_pos c11, p_b_n e1]
          refine v_if_neN (pc := 21) (tgt := 26) (by omega) dX7_takesFactor_21 (by decide) (fun c21 => ?_) (fun c21 => ?_)
          · exact absurd rfl c21
          · refine v_iconst (pc := 24) (v := nI 0) dX7_takesFactor_24 (by decide) ?_
            exact v_iret (pc := 25) dX7_takesFactor_25 rfl rfl (Nat.le_of_ble_eq_true rfl) (Nat.le_of_ble_eq_true rfl) ⟨_, rfl, kS_tr s8 s18, Or.inl ⟨by rw [eW], rfl, by rw [eW]; exact e3⟩⟩
        · have eW : p_F T 3 i = ((p_F T 2 (i + 1)).1, some (k ++ [0])) := by rw [p_F_s, if_pos c11, p_b_s e1]
          have hl9 := (hF.2.2 k e1).1
          refine v_if_neN (pc := 21) (tgt := 26) (by omega) dX7_takesFactor_21 (by decide) (fun c21 => ?_) (fun c21 => ?_)
          · refine v_aload_n (pc := 26) dX7_takesFactor_26 rfl rfl ?_
            refine v_iconst (pc := 27) (v := -1) dX7_takesFactor_27 (by decide) ?_
            refine v_cv (pc := 28) (v_rV (c_X7_keep G l hT e3 (k := 0) (by rw [List.length_append]; dsimp only; omega)) rfl kV_X7_94 (v_rcO hT.1 rfl (by decide)) ⟨Nat.le_of_ble_eq_true rfl, Nat.le_of_ble_eq_true rfl⟩ ⟨Nat.le_of_ble_eq_true rfl, Nat.le_of_ble_eq_true rfl⟩ dX7_takesFactor_28 (Nat.le_of_ble_eq_true rfl)) (fun M28 h28 => ?_)
            obtain ⟨I28, rfl, s28, q28⟩ := h28
            refine v_iconst (pc := 31) (v := nI 1) dX7_takesFactor_31 (by decide) ?_
            exact v_iret (pc := 32) dX7_takesFactor_32 rfl rfl (Nat.le_of_ble_eq_true rfl) (Nat.le_of_ble_eq_true rfl) ⟨_, rfl, kS_tr s8 (kS_tr s18 s28), Or.inr ⟨_, by rw [eW], rfl, by rw [eW]; rw [List.append_assoc] at q28; exact q28⟩⟩
          · exact absurd c21 (by decide)
abbrev rm_X7_takesBoth_3 : Room := { frames := 19, cells := 0, slots := 0, locals := 800 }
set_option maxRecDepth 20000 in
theorem c_X7_takesBoth_3 (G : v_G) (l : Launch) {K : Nat × v_TY} {I : Nat → Nat → Int32} {J : Nat → Nat → Int64} {R : Nat → Nat → Option Nat} {t : Nat} {T : List Nat} {i : Nat} {ks : List Nat} (hT : TH K R t) (hP : CP7 I t T i ks) : v_M G l yX7_takesBoth cX7_takesBoth 3 (some .boolean) rm_X7_takesBoth_3 [.ref t, .int (nI 1)] (K, I, J, R) (v_Qi G (fun (x : Int32) (M' : v_MM) => ∃ I', M' = (K, I', J, R) ∧ RS I t T ks (p_sq T 38 1 (p_F T 3) i) (fun k => k) x I')) := by
  refine v_of [some (.ref t), some (.int (nI 1)), none] (by decide) (Nat.le_of_ble_eq_true rfl) (Nat.le_of_ble_eq_true rfl) rfl ?_
  have key : ∀ n, n ≤ 100 → ∀ (Ij : Nat → Nat → Int32) (q : Nat) (acc : List Nat), CP7 Ij t T q (ks ++ acc) → kS t I Ij → i + acc.length ≤ q → p_lp T 38 1 (p_F T 3) (100 - n) q acc = p_sq T 38 1 (p_F T 3) i → v_V G l yX7_takesBoth cX7_takesBoth 3 (some .boolean) rm_X7_takesBoth_3 (v_Qi G (fun (x : Int32) (M' : v_MM) => ∃ I', M' = (K, I', J, R) ∧ RS I t T ks (p_sq T 38 1 (p_F T 3) i) (fun k => k) x I')) 0 0 12 [some (.ref t), some (.int (nI 1)), some (.int (nI n))] [] (K, Ij, J, R) := by
    refine v_down 100 (fun n hn ih => ?_)
    intro Ij q acc hQ hk hia he
    refine v_iload_n (pc := 12) dX7_takesBoth_12 rfl rfl ?_
    refine v_bipush (pc := 13) (v := nI 100) dX7_takesBoth_13 (by decide) ?_
    refine v_icmp_geN (pc := 15) (tgt := 49) ⟨by omega, by omega⟩ dX7_takesBoth_15 (by decide) (fun c15 => ?_) (fun c15 => ?_)
    · have eW : p_sq T 38 1 (p_F T 3) i = (q, some acc) := by rw [← he, show 100 - n = 0 by omega]; rfl
      have hQ9 := hQ
      have s9 := hk
      refine v_iconst (pc := 49) (v := nI 1) dX7_takesBoth_49 (by decide) ?_
      exact v_iret (pc := 50) dX7_takesBoth_50 rfl rfl (Nat.le_of_ble_eq_true rfl) (Nat.le_of_ble_eq_true rfl) ⟨_, rfl, s9, Or.inr ⟨_, by rw [eW], rfl, by rw [eW]; exact hQ9⟩⟩
    · refine v_aload_n (pc := 18) dX7_takesBoth_18 rfl rfl ?_
      refine v_bipush (pc := 19) (v := nI 38) dX7_takesBoth_19 (by decide) ?_
      refine v_ci (pc := 21) (v_rV (c_X7_takes G l hT hQ (c := 38) (by decide)) rfl kV_X7_47 (v_rcO hT.1 rfl (by decide)) ⟨Nat.le_of_ble_eq_true rfl, Nat.le_of_ble_eq_true rfl⟩ ⟨Nat.le_of_ble_eq_true rfl, Nat.le_of_ble_eq_true rfl⟩ dX7_takesBoth_21 (Nat.le_of_ble_eq_true rfl)) (fun x21 M21 h21 => ?_)
      obtain ⟨rfl, I21, rfl, s21, g21, n21⟩ := h21
      refine v_if_eqP (pc := 24) (tgt := 49) dX7_takesBoth_24 (by decide) (fun c24 => ?_) (fun c24 => ?_)
      · have eW : p_sq T 38 1 (p_F T 3) i = (q, some acc) := by rw [← he, p_lp_s (by omega), if_neg c24]
        have hQ9 := n21 c24
        have s9 := kS_tr hk s21
        refine v_iconst (pc := 49) (v := nI 1) dX7_takesBoth_49 (by decide) ?_
        exact v_iret (pc := 50) dX7_takesBoth_50 rfl rfl (Nat.le_of_ble_eq_true rfl) (Nat.le_of_ble_eq_true rfl) ⟨_, rfl, s9, Or.inr ⟨_, by rw [eW], rfl, by rw [eW]; exact hQ9⟩⟩
      · have hQ1 := g21 c24
        have hF := (PP_F T 3) (q + 1) hQ1.2.1.2
        have hks := hP.2.2.1.2
        refine v_aload_n (pc := 27) dX7_takesBoth_27 rfl rfl ?_
        refine v_iload_n (pc := 28) dX7_takesBoth_28 rfl rfl ?_
        refine v_ci (pc := 29) (v_rV (c_X7_takesFactor_3 G l hT hQ1) rfl kV_X7_98 (v_rcO hT.1 rfl (by decide)) ⟨Nat.le_of_ble_eq_true rfl, Nat.le_of_ble_eq_true rfl⟩ ⟨Nat.le_of_ble_eq_true rfl, Nat.le_of_ble_eq_true rfl⟩ dX7_takesBoth_29 (Nat.le_of_ble_eq_true rfl)) (fun x29 M29 h29 => ?_)
        skip
        obtain ⟨I29, rfl, s29, ⟨e1, rfl, e3⟩ | ⟨k2, e1, rfl, e3⟩⟩ := h29
        · have eW : p_sq T 38 1 (p_F T 3) i = ((p_F T 3 (q + 1)).1, none) := by rw [← he, p_lp_s (by omega), if_pos c24, p_b_n e1]
          refine v_if_neN (pc := 32) (tgt := 37) (by omega) dX7_takesBoth_32 (by decide) (fun c32 => ?_) (fun c32 => ?_)
          · exact absurd rfl c32
          · refine v_iconst (pc := 35) (v := nI 0) dX7_takesBoth_35 (by decide) ?_
            exact v_iret (pc := 36) dX7_takesBoth_36 rfl rfl (Nat.le_of_ble_eq_true rfl) (Nat.le_of_ble_eq_true rfl) ⟨_, rfl, kS_tr hk (kS_tr s21 s29), Or.inl ⟨by rw [eW], rfl, by rw [eW]; exact e3⟩⟩
        · have hl9 := (hF.2.2 k2 e1).1
          refine v_if_neN (pc := 32) (tgt := 37) (by omega) dX7_takesBoth_32 (by decide) (fun c32 => ?_) (fun c32 => ?_)
          · refine v_aload_n (pc := 37) dX7_takesBoth_37 rfl rfl ?_
            refine v_bipush (pc := 38) (v := -2) dX7_takesBoth_38 (by decide) ?_
            refine v_cv (pc := 40) (v_rV (c_X7_keep G l hT e3 (k := 1) (by rw [List.length_append, List.length_append]; dsimp only; omega)) rfl kV_X7_94 (v_rcO hT.1 rfl (by decide)) ⟨Nat.le_of_ble_eq_true rfl, Nat.le_of_ble_eq_true rfl⟩ ⟨Nat.le_of_ble_eq_true rfl, Nat.le_of_ble_eq_true rfl⟩ dX7_takesBoth_40 (Nat.le_of_ble_eq_true rfl)) (fun M40 h40 => ?_)
            obtain ⟨I40, rfl, s40, q40⟩ := h40
            refine v_iincN (pc := 43) (b := 1) dX7_takesBoth_43 rfl (by decide) (by decide) rfl ?_
            refine v_goto (pc := 46) (tgt := 12) dX7_takesBoth_46 (by decide) ?_
            exact ih (n + 1) (by omega) (by omega) I40 _ (acc ++ k2 ++ [1]) (by rw [List.append_assoc, List.append_assoc, ← List.append_assoc acc, ← List.append_assoc ks] at q40; rw [← List.append_assoc]; exact q40) (kS_tr hk (kS_tr s21 (kS_tr s29 s40))) (by rw [List.length_append, List.length_append]; show i + (_ + _ + 1) ≤ _; omega) (by rw [← he, p_lp_s (n := n) (by omega), if_pos c24, p_b_s e1])
          · exact absurd c32 (by decide)
  · refine v_aload_n (pc := 0) dX7_takesBoth_0 rfl rfl ?_
    refine v_iload_n (pc := 1) dX7_takesBoth_1 rfl rfl ?_
    refine v_ci (pc := 2) (v_rV (c_X7_takesFactor_3 G l hT hP) rfl kV_X7_98 (v_rcO hT.1 rfl (by decide)) ⟨Nat.le_of_ble_eq_true rfl, Nat.le_of_ble_eq_true rfl⟩ ⟨Nat.le_of_ble_eq_true rfl, Nat.le_of_ble_eq_true rfl⟩ dX7_takesBoth_2 (Nat.le_of_ble_eq_true rfl)) (fun x2 M2 h2 => ?_)
    skip
    obtain ⟨I2, rfl, s2, ⟨e1, rfl, e3⟩ | ⟨k, e1, rfl, e3⟩⟩ := h2
    · have eW : p_sq T 38 1 (p_F T 3) i = ((p_F T 3 i).1, none) := p_b_n e1
      refine v_if_neN (pc := 5) (tgt := 10) (by omega) dX7_takesBoth_5 (by decide) (fun c5 => ?_) (fun c5 => ?_)
      · exact absurd rfl c5
      · refine v_iconst (pc := 8) (v := nI 0) dX7_takesBoth_8 (by decide) ?_
        exact v_iret (pc := 9) dX7_takesBoth_9 rfl rfl (Nat.le_of_ble_eq_true rfl) (Nat.le_of_ble_eq_true rfl) ⟨_, rfl, s2, Or.inl ⟨by rw [eW], rfl, by rw [eW]; exact e3⟩⟩
    · refine v_if_neN (pc := 5) (tgt := 10) (by omega) dX7_takesBoth_5 (by decide) (fun c5 => ?_) (fun c5 => ?_)
      · refine v_iconst (pc := 10) (v := nI 0) dX7_takesBoth_10 (by decide) ?_
        refine v_istore_n (pc := 11) dX7_takesBoth_11 rfl (by decide) rfl ?_
        exact key 0 (by decide) I2 _ k e3 s2 ((PP_F T 3) i hP.2.1.2 |>.2.2 k e1).1 (p_b_s e1).symm
      · exact absurd c5 (by decide)
abbrev rm_X7_takesEither_3 : Room := { frames := 20, cells := 0, slots := 0, locals := 840 }
set_option maxRecDepth 20000 in
theorem c_X7_takesEither_3 (G : v_G) (l : Launch) {K : Nat × v_TY} {I : Nat → Nat → Int32} {J : Nat → Nat → Int64} {R : Nat → Nat → Option Nat} {t : Nat} {T : List Nat} {i : Nat} {ks : List Nat} (hT : TH K R t) (hP : CP7 I t T i ks) : v_M G l yX7_takesEither cX7_takesEither 3 (some .boolean) rm_X7_takesEither_3 [.ref t, .int (nI 1)] (K, I, J, R) (v_Qi G (fun (x : Int32) (M' : v_MM) => ∃ I', M' = (K, I', J, R) ∧ RS I t T ks (p_E T 3 i) (fun k => k) x I')) := by
  refine v_of [some (.ref t), some (.int (nI 1)), none] (by decide) (Nat.le_of_ble_eq_true rfl) (Nat.le_of_ble_eq_true rfl) rfl ?_
  have key : ∀ n, n ≤ 100 → ∀ (Ij : Nat → Nat → Int32) (q : Nat) (acc : List Nat), CP7 Ij t T q (ks ++ acc) → kS t I Ij → i + acc.length ≤ q → p_lp T 124 2 (p_sq T 38 1 (p_F T 3)) (100 - n) q acc = p_E T 3 i → v_V G l yX7_takesEither cX7_takesEither 3 (some .boolean) rm_X7_takesEither_3 (v_Qi G (fun (x : Int32) (M' : v_MM) => ∃ I', M' = (K, I', J, R) ∧ RS I t T ks (p_E T 3 i) (fun k => k) x I')) 0 0 12 [some (.ref t), some (.int (nI 1)), some (.int (nI n))] [] (K, Ij, J, R) := by
    refine v_down 100 (fun n hn ih => ?_)
    intro Ij q acc hQ hk hia he
    refine v_iload_n (pc := 12) dX7_takesEither_12 rfl rfl ?_
    refine v_bipush (pc := 13) (v := nI 100) dX7_takesEither_13 (by decide) ?_
    refine v_icmp_geN (pc := 15) (tgt := 49) ⟨by omega, by omega⟩ dX7_takesEither_15 (by decide) (fun c15 => ?_) (fun c15 => ?_)
    · have eW : p_E T 3 i = (q, some acc) := by rw [← he, show 100 - n = 0 by omega]; rfl
      have hQ9 := hQ
      have s9 := hk
      refine v_iconst (pc := 49) (v := nI 1) dX7_takesEither_49 (by decide) ?_
      exact v_iret (pc := 50) dX7_takesEither_50 rfl rfl (Nat.le_of_ble_eq_true rfl) (Nat.le_of_ble_eq_true rfl) ⟨_, rfl, s9, Or.inr ⟨_, by rw [eW], rfl, by rw [eW]; exact hQ9⟩⟩
    · refine v_aload_n (pc := 18) dX7_takesEither_18 rfl rfl ?_
      refine v_bipush (pc := 19) (v := nI 124) dX7_takesEither_19 (by decide) ?_
      refine v_ci (pc := 21) (v_rV (c_X7_takes G l hT hQ (c := 124) (by decide)) rfl kV_X7_47 (v_rcO hT.1 rfl (by decide)) ⟨Nat.le_of_ble_eq_true rfl, Nat.le_of_ble_eq_true rfl⟩ ⟨Nat.le_of_ble_eq_true rfl, Nat.le_of_ble_eq_true rfl⟩ dX7_takesEither_21 (Nat.le_of_ble_eq_true rfl)) (fun x21 M21 h21 => ?_)
      obtain ⟨rfl, I21, rfl, s21, g21, n21⟩ := h21
      refine v_if_eqP (pc := 24) (tgt := 49) dX7_takesEither_24 (by decide) (fun c24 => ?_) (fun c24 => ?_)
      · have eW : p_E T 3 i = (q, some acc) := by rw [← he, p_lp_s (by omega), if_neg c24]
        have hQ9 := n21 c24
        have s9 := kS_tr hk s21
        refine v_iconst (pc := 49) (v := nI 1) dX7_takesEither_49 (by decide) ?_
        exact v_iret (pc := 50) dX7_takesEither_50 rfl rfl (Nat.le_of_ble_eq_true rfl) (Nat.le_of_ble_eq_true rfl) ⟨_, rfl, s9, Or.inr ⟨_, by rw [eW], rfl, by rw [eW]; exact hQ9⟩⟩
      · have hQ1 := g21 c24
        have hF := (PP_sq (T := T) (sep := 38) (op := 1) (PP_F T 3) (by decide) (Or.inl rfl)) (q + 1) hQ1.2.1.2
        have hks := hP.2.2.1.2
        refine v_aload_n (pc := 27) dX7_takesEither_27 rfl rfl ?_
        refine v_iload_n (pc := 28) dX7_takesEither_28 rfl rfl ?_
        refine v_ci (pc := 29) (v_rV (c_X7_takesBoth_3 G l hT hQ1) rfl kV_X7_91 (v_rcO hT.1 rfl (by decide)) ⟨Nat.le_of_ble_eq_true rfl, Nat.le_of_ble_eq_true rfl⟩ ⟨Nat.le_of_ble_eq_true rfl, Nat.le_of_ble_eq_true rfl⟩ dX7_takesEither_29 (Nat.le_of_ble_eq_true rfl)) (fun x29 M29 h29 => ?_)
        skip
        obtain ⟨I29, rfl, s29, ⟨e1, rfl, e3⟩ | ⟨k2, e1, rfl, e3⟩⟩ := h29
        · have eW : p_E T 3 i = ((p_sq T 38 1 (p_F T 3) (q + 1)).1, none) := by rw [← he, p_lp_s (by omega), if_pos c24, p_b_n e1]
          refine v_if_neN (pc := 32) (tgt := 37) (by omega) dX7_takesEither_32 (by decide) (fun c32 => ?_) (fun c32 => ?_)
          · exact absurd rfl c32
          · refine v_iconst (pc := 35) (v := nI 0) dX7_takesEither_35 (by decide) ?_
            exact v_iret (pc := 36) dX7_takesEither_36 rfl rfl (Nat.le_of_ble_eq_true rfl) (Nat.le_of_ble_eq_true rfl) ⟨_, rfl, kS_tr hk (kS_tr s21 s29), Or.inl ⟨by rw [eW], rfl, by rw [eW]; exact e3⟩⟩
        · have hl9 := (hF.2.2 k2 e1).1
          refine v_if_neN (pc := 32) (tgt := 37) (by omega) dX7_takesEither_32 (by decide) (fun c32 => ?_) (fun c32 => ?_)
          · refine v_aload_n (pc := 37) dX7_takesEither_37 rfl rfl ?_
            refine v_bipush (pc := 38) (v := -3) dX7_takesEither_38 (by decide) ?_
            refine v_cv (pc := 40) (v_rV (c_X7_keep G l hT e3 (k := 2) (by rw [List.length_append, List.length_append]; dsimp only; omega)) rfl kV_X7_94 (v_rcO hT.1 rfl (by decide)) ⟨Nat.le_of_ble_eq_true rfl, Nat.le_of_ble_eq_true rfl⟩ ⟨Nat.le_of_ble_eq_true rfl, Nat.le_of_ble_eq_true rfl⟩ dX7_takesEither_40 (Nat.le_of_ble_eq_true rfl)) (fun M40 h40 => ?_)
            obtain ⟨I40, rfl, s40, q40⟩ := h40
            refine v_iincN (pc := 43) (b := 1) dX7_takesEither_43 rfl (by decide) (by decide) rfl ?_
            refine v_goto (pc := 46) (tgt := 12) dX7_takesEither_46 (by decide) ?_
            exact ih (n + 1) (by omega) (by omega) I40 _ (acc ++ k2 ++ [2]) (by rw [List.append_assoc, List.append_assoc, ← List.append_assoc acc, ← List.append_assoc ks] at q40; rw [← List.append_assoc]; exact q40) (kS_tr hk (kS_tr s21 (kS_tr s29 s40))) (by rw [List.length_append, List.length_append]; show i + (_ + _ + 1) ≤ _; omega) (by rw [← he, p_lp_s (n := n) (by omega), if_pos c24, p_b_s e1])
          · exact absurd c32 (by decide)
  · refine v_aload_n (pc := 0) dX7_takesEither_0 rfl rfl ?_
    refine v_iload_n (pc := 1) dX7_takesEither_1 rfl rfl ?_
    refine v_ci (pc := 2) (v_rV (c_X7_takesBoth_3 G l hT hP) rfl kV_X7_91 (v_rcO hT.1 rfl (by decide)) ⟨Nat.le_of_ble_eq_true rfl, Nat.le_of_ble_eq_true rfl⟩ ⟨Nat.le_of_ble_eq_true rfl, Nat.le_of_ble_eq_true rfl⟩ dX7_takesEither_2 (Nat.le_of_ble_eq_true rfl)) (fun x2 M2 h2 => ?_)
    skip
    obtain ⟨I2, rfl, s2, ⟨e1, rfl, e3⟩ | ⟨k, e1, rfl, e3⟩⟩ := h2
    · have eW : p_E T 3 i = ((p_sq T 38 1 (p_F T 3) i).1, none) := p_b_n e1
      refine v_if_neN (pc := 5) (tgt := 10) (by omega) dX7_takesEither_5 (by decide) (fun c5 => ?_) (fun c5 => ?_)
      · exact absurd rfl c5
      · refine v_iconst (pc := 8) (v := nI 0) dX7_takesEither_8 (by decide) ?_
        exact v_iret (pc := 9) dX7_takesEither_9 rfl rfl (Nat.le_of_ble_eq_true rfl) (Nat.le_of_ble_eq_true rfl) ⟨_, rfl, s2, Or.inl ⟨by rw [eW], rfl, by rw [eW]; exact e3⟩⟩
    · refine v_if_neN (pc := 5) (tgt := 10) (by omega) dX7_takesEither_5 (by decide) (fun c5 => ?_) (fun c5 => ?_)
      · refine v_iconst (pc := 10) (v := nI 0) dX7_takesEither_10 (by decide) ?_
        refine v_istore_n (pc := 11) dX7_takesEither_11 rfl (by decide) rfl ?_
        exact key 0 (by decide) I2 _ k e3 s2 ((PP_sq (T := T) (sep := 38) (op := 1) (PP_F T 3) (by decide) (Or.inl rfl)) i hP.2.1.2 |>.2.2 k e1).1 (p_b_s e1).symm
      · exact absurd c5 (by decide)
abbrev rm_X7_takesFactor_4 : Room := { frames := 21, cells := 0, slots := 0, locals := 880 }
set_option maxRecDepth 20000 in
theorem c_X7_takesFactor_4 (G : v_G) (l : Launch) {K : Nat × v_TY} {I : Nat → Nat → Int32} {J : Nat → Nat → Int64} {R : Nat → Nat → Option Nat} {t : Nat} {T : List Nat} {i : Nat} {ks : List Nat} (hT : TH K R t) (hP : CP7 I t T i ks) : v_M G l yX7_takesFactor cX7_takesFactor 5 (some .boolean) rm_X7_takesFactor_4 [.ref t, .int (nI 0)] (K, I, J, R) (v_Qi G (fun (x : Int32) (M' : v_MM) => ∃ I', M' = (K, I', J, R) ∧ RS I t T ks (p_F T 4 i) (fun k => k) x I')) := by
  refine v_of [some (.ref t), some (.int (nI 0)), none, none, none] (by decide) (Nat.le_of_ble_eq_true rfl) (Nat.le_of_ble_eq_true rfl) rfl ?_
  have tst : ∀ (I2 : Nat → Nat → Int32), CP7 I2 t T i ks → kS t I I2 → p_F T 4 i = p_tst T i → v_V G l yX7_takesFactor cX7_takesFactor 5 (some .boolean) rm_X7_takesFactor_4 (v_Qi G (fun (x : Int32) (M' : v_MM) => ∃ I', M' = (K, I', J, R) ∧ RS I t T ks (p_F T 4 i) (fun k => k) x I')) 0 0 72 [some (.ref t), some (.int (nI 0)), none, none, none] [] (K, I2, J, R) := by
    intro I2 hQ hk e0
    refine v_aload_n (pc := 72) dX7_takesFactor_72 rfl rfl ?_
    refine v_ldcS (pc := 73) (i := 5) (tx := "abfdey") (List.mem_of_getElem? (i := 0) rfl) dX7_takesFactor_73 ?_
    refine v_ci (pc := 75) (v_rV (c_X7_takenOneOf G l hT hQ (u := 5) (by decide)) rfl kV_X7_67 (v_rcO hT.1 rfl (by decide)) ⟨Nat.le_of_ble_eq_true rfl, Nat.le_of_ble_eq_true rfl⟩ ⟨Nat.le_of_ble_eq_true rfl, Nat.le_of_ble_eq_true rfl⟩ dX7_takesFactor_75 (Nat.le_of_ble_eq_true rfl)) (fun x75 M75 h75 => ?_)
    obtain ⟨rfl, I75, rfl, s75, g75, n75⟩ := h75
    have hx5 := CP7_tx hQ i
    rw [t_ix5 _ hx5] at g75 n75 ⊢
    rcases e5 : p_le (tx T i) with _ | f <;> rw [e5] at g75 n75
    · have eW : p_F T 4 i = (i, none) := e0.trans (p_tst0 e5)
      have eQ := (g75 (by decide)).2.1.1
      refine v_istore_n (pc := 78) dX7_takesFactor_78 rfl (by decide) rfl ?_
      refine v_iload_n (pc := 79) dX7_takesFactor_79 rfl rfl ?_
      refine v_if_ge (pc := 80) (tgt := 87) dX7_takesFactor_80 (by decide) (fun c80 => ?_) (fun c80 => ?_)
      · exact absurd c80 (by decide)
      · refine v_iconst (pc := 83) (v := -1) dX7_takesFactor_83 (by decide) ?_
        refine v_goto (pc := 84) (tgt := 93) dX7_takesFactor_84 (by decide) ?_
        refine v_istore_n (pc := 93) dX7_takesFactor_93 rfl (by decide) rfl ?_
        refine v_iload_n (pc := 94) dX7_takesFactor_94 rfl rfl ?_
        refine v_if_ge (pc := 95) (tgt := 102) dX7_takesFactor_95 (by decide) (fun c95 => ?_) (fun c95 => ?_)
        · exact absurd c95 (by decide)
        · refine v_iconst (pc := 98) (v := -1) dX7_takesFactor_98 (by decide) ?_
          refine v_goto (pc := 99) (tgt := 106) dX7_takesFactor_99 (by decide) ?_
          refine v_istore (pc := 106) dX7_takesFactor_106 (by decide) rfl ?_
          refine v_iload (pc := 108) dX7_takesFactor_108 rfl ?_
          refine v_if_ge (pc := 110) (tgt := 115) dX7_takesFactor_110 (by decide) (fun c110 => ?_) (fun c110 => ?_)
          · exact absurd c110 (by decide)
          · refine v_iconst (pc := 113) (v := nI 0) dX7_takesFactor_113 (by decide) ?_
            exact v_iret (pc := 114) dX7_takesFactor_114 rfl rfl (Nat.le_of_ble_eq_true rfl) (Nat.le_of_ble_eq_true rfl) ⟨_, rfl, kS_tr hk s75, Or.inl ⟨by rw [eW], rfl, by rw [eW]; exact eQ⟩⟩
    · have f6 := (p_le_ok e5).1
      have hQ1 := n75 (nn_i (by omega))
      refine v_istore_n (pc := 78) dX7_takesFactor_78 rfl (by decide) rfl ?_
      refine v_iload_n (pc := 79) dX7_takesFactor_79 rfl rfl ?_
      refine v_if_geN (pc := 80) (tgt := 87) (by omega) dX7_takesFactor_80 (by decide) ?_
      refine v_aload_n (pc := 87) dX7_takesFactor_87 rfl rfl ?_
      refine v_ldcS (pc := 88) (i := 6) (tx := "<=>") (List.mem_of_getElem? (i := 1) rfl) dX7_takesFactor_88 ?_
      refine v_ci (pc := 90) (v_rV (c_X7_takenOneOf G l hT hQ1 (u := 6) (by decide)) rfl kV_X7_67 (v_rcO hT.1 rfl (by decide)) ⟨Nat.le_of_ble_eq_true rfl, Nat.le_of_ble_eq_true rfl⟩ ⟨Nat.le_of_ble_eq_true rfl, Nat.le_of_ble_eq_true rfl⟩ dX7_takesFactor_90 (Nat.le_of_ble_eq_true rfl)) (fun x90 M90 h90 => ?_)
      obtain ⟨rfl, I90, rfl, s90, g90, n90⟩ := h90
      have hx6 := CP7_tx hQ1 (i + 1)
      rw [t_ix6 _ hx6] at g90 n90 ⊢
      by_cases d2 : 60 ≤ tx T (i + 1) ∧ tx T (i + 1) ≤ 62
      · rw [if_pos d2] at g90 n90 ⊢
        have hQ2 := n90 (nn_i (by omega))
        have hnm := p_num_ok hQ2.2.1.2
        have e8 := p_tst2 e5 d2
        obtain ⟨s9, hs9⟩ : ∃ s9, tx T (i + 1) - 60 = s9 := ⟨_, rfl⟩
        rw [hs9] at e8 ⊢
        refine v_istore_n (pc := 93) dX7_takesFactor_93 rfl (by decide) rfl ?_
        refine v_iload_n (pc := 94) dX7_takesFactor_94 rfl rfl ?_
        refine v_if_geN (pc := 95) (tgt := 102) (by omega) dX7_takesFactor_95 (by decide) ?_
        refine v_aload_n (pc := 102) dX7_takesFactor_102 rfl rfl ?_
        refine v_ci (pc := 103) (v_rV (c_X7_takenNumber G l hT hQ2) rfl kV_X7_59 (v_rcO hT.1 rfl (by decide)) ⟨Nat.le_of_ble_eq_true rfl, Nat.le_of_ble_eq_true rfl⟩ ⟨Nat.le_of_ble_eq_true rfl, Nat.le_of_ble_eq_true rfl⟩ dX7_takesFactor_103 (Nat.le_of_ble_eq_true rfl)) (fun x103 M103 h103 => ?_)
        obtain ⟨rfl, I103, rfl, s103, q103⟩ := h103
        rcases e7 : (p_num T (i + 2)).2 with _ | d
        · have eW : p_F T 4 i = ((p_num T (i + 2)).1, none) := e0.trans (e8.trans (p_b_n e7))
          have eQ := q103.2.1.1
          refine v_istore (pc := 106) dX7_takesFactor_106 (by decide) rfl ?_
          refine v_iload (pc := 108) dX7_takesFactor_108 rfl ?_
          refine v_if_ge (pc := 110) (tgt := 115) dX7_takesFactor_110 (by decide) (fun c110 => ?_) (fun c110 => ?_)
          · exact absurd c110 (by decide)
          · refine v_iconst (pc := 113) (v := nI 0) dX7_takesFactor_113 (by decide) ?_
            exact v_iret (pc := 114) dX7_takesFactor_114 rfl rfl (Nat.le_of_ble_eq_true rfl) (Nat.le_of_ble_eq_true rfl) ⟨_, rfl, kS_tr hk (kS_tr s75 (kS_tr s90 s103)), Or.inl ⟨by rw [eW], rfl, by rw [eW]; exact eQ⟩⟩
        · have hd9 := hnm.2.2 d e7
          have eW : p_F T 4 i = ((p_num T (i + 2)).1, some [300 * f + 100 * s9 + d + 3]) := e0.trans (e8.trans (p_b_s e7))
          have hl9 := hQ.2.2.1.2
          show v_V G l _ _ _ _ _ _ _ _ _ _ (.int (nI d) :: _) _
          refine v_istore (pc := 106) dX7_takesFactor_106 (by decide) rfl ?_
          refine v_iload (pc := 108) dX7_takesFactor_108 rfl ?_
          refine v_if_geN (pc := 110) (tgt := 115) (by omega) dX7_takesFactor_110 (by decide) ?_
          refine v_aload_n (pc := 115) dX7_takesFactor_115 rfl rfl ?_
          refine v_iload_n (pc := 116) dX7_takesFactor_116 rfl rfl ?_
          refine v_iconst (pc := 117) (v := nI 3) dX7_takesFactor_117 (by decide) ?_
          refine v_imulN (pc := 118) dX7_takesFactor_118 ?_
          refine v_iload_n (pc := 119) dX7_takesFactor_119 rfl rfl ?_
          refine v_iaddN (pc := 120) dX7_takesFactor_120 ?_
          refine v_bipush (pc := 121) (v := nI 100) dX7_takesFactor_121 (by decide) ?_
          refine v_imulN (pc := 123) dX7_takesFactor_123 ?_
          refine v_iload (pc := 124) dX7_takesFactor_124 rfl ?_
          refine v_iaddN (pc := 126) dX7_takesFactor_126 ?_
          refine v_top c_tk ?_
          refine v_cv (pc := 127) (v_rV (c_X7_keep G l hT q103 (by omega)) rfl kV_X7_94 (v_rcO hT.1 rfl (by decide)) ⟨Nat.le_of_ble_eq_true rfl, Nat.le_of_ble_eq_true rfl⟩ ⟨Nat.le_of_ble_eq_true rfl, Nat.le_of_ble_eq_true rfl⟩ dX7_takesFactor_127 (Nat.le_of_ble_eq_true rfl)) (fun M127 h127 => ?_)
          obtain ⟨I127, rfl, s127, q127⟩ := h127
          refine v_iconst (pc := 130) (v := nI 1) dX7_takesFactor_130 (by decide) ?_
          exact v_iret (pc := 131) dX7_takesFactor_131 rfl rfl (Nat.le_of_ble_eq_true rfl) (Nat.le_of_ble_eq_true rfl) ⟨_, rfl, kS_tr hk (kS_tr s75 (kS_tr s90 (kS_tr s103 s127))), Or.inr ⟨_, by rw [eW], rfl, by rw [eW]; exact q127⟩⟩
      · rw [if_neg d2] at g90 n90 ⊢
        have eW : p_F T 4 i = (i + 1, none) := e0.trans (p_tst1 e5 d2)
        have eQ := (g90 (by decide)).2.1.1
        refine v_istore_n (pc := 93) dX7_takesFactor_93 rfl (by decide) rfl ?_
        refine v_iload_n (pc := 94) dX7_takesFactor_94 rfl rfl ?_
        refine v_if_ge (pc := 95) (tgt := 102) dX7_takesFactor_95 (by decide) (fun c95 => ?_) (fun c95 => ?_)
        · exact absurd c95 (by decide)
        · refine v_iconst (pc := 98) (v := -1) dX7_takesFactor_98 (by decide) ?_
          refine v_goto (pc := 99) (tgt := 106) dX7_takesFactor_99 (by decide) ?_
          refine v_istore (pc := 106) dX7_takesFactor_106 (by decide) rfl ?_
          refine v_iload (pc := 108) dX7_takesFactor_108 rfl ?_
          refine v_if_ge (pc := 110) (tgt := 115) dX7_takesFactor_110 (by decide) (fun c110 => ?_) (fun c110 => ?_)
          · exact absurd c110 (by decide)
          · refine v_iconst (pc := 113) (v := nI 0) dX7_takesFactor_113 (by decide) ?_
            exact v_iret (pc := 114) dX7_takesFactor_114 rfl rfl (Nat.le_of_ble_eq_true rfl) (Nat.le_of_ble_eq_true rfl) ⟨_, rfl, kS_tr hk (kS_tr s75 s90), Or.inl ⟨by rw [eW], rfl, by rw [eW]; exact eQ⟩⟩
  · refine v_iload_n (pc := 0) dX7_takesFactor_0 rfl rfl ?_
    refine v_iconst (pc := 1) (v := nI 4) dX7_takesFactor_1 (by decide) ?_
    refine v_icmp_geN (pc := 2) (tgt := 33) ⟨by omega, by omega⟩ dX7_takesFactor_2 (by decide) (fun c2 => ?_) (fun c2 => ?_)
    · exact absurd c2 (by decide)
    · refine v_aload_n (pc := 5) dX7_takesFactor_5 rfl rfl ?_
      refine v_bipush (pc := 6) (v := nI 33) dX7_takesFactor_6 (by decide) ?_
      refine v_ci (pc := 8) (v_rV (c_X7_takes G l hT hP (c := 33) (by decide)) rfl kV_X7_47 (v_rcO hT.1 rfl (by decide)) ⟨Nat.le_of_ble_eq_true rfl, Nat.le_of_ble_eq_true rfl⟩ ⟨Nat.le_of_ble_eq_true rfl, Nat.le_of_ble_eq_true rfl⟩ dX7_takesFactor_8 (Nat.le_of_ble_eq_true rfl)) (fun x8 M8 h8 => ?_)
      obtain ⟨rfl, I8, rfl, s8, g8, n8⟩ := h8
      refine v_if_eqP (pc := 11) (tgt := 33) dX7_takesFactor_11 (by decide) (fun c11 => ?_) (fun c11 => ?_)
      · have hP8 := n8 c11
        refine v_iload_n (pc := 33) dX7_takesFactor_33 rfl rfl ?_
        refine v_iconst (pc := 34) (v := nI 4) dX7_takesFactor_34 (by decide) ?_
        refine v_icmp_geN (pc := 35) (tgt := 72) ⟨by omega, by omega⟩ dX7_takesFactor_35 (by decide) (fun c35 => ?_) (fun c35 => ?_)
        · exact absurd c35 (by decide)
        · refine v_aload_n (pc := 38) dX7_takesFactor_38 rfl rfl ?_
          refine v_bipush (pc := 39) (v := nI 40) dX7_takesFactor_39 (by decide) ?_
          refine v_ci (pc := 41) (v_rV (c_X7_takes G l hT hP8 (c := 40) (by decide)) rfl kV_X7_47 (v_rcO hT.1 rfl (by decide)) ⟨Nat.le_of_ble_eq_true rfl, Nat.le_of_ble_eq_true rfl⟩ ⟨Nat.le_of_ble_eq_true rfl, Nat.le_of_ble_eq_true rfl⟩ dX7_takesFactor_41 (Nat.le_of_ble_eq_true rfl)) (fun x41 M41 h41 => ?_)
          obtain ⟨rfl, I41, rfl, s41, g41, n41⟩ := h41
          refine v_if_eqP (pc := 44) (tgt := 72) dX7_takesFactor_44 (by decide) (fun c44 => ?_) (fun c44 => ?_)
          · have hP41 := n41 c44
            exact tst I41 hP41 (kS_tr s8 s41) (by rw [p_F_s, if_neg c11, if_neg c44])
          · have hP41 := g41 c44
            refine v_aload_n (pc := 47) dX7_takesFactor_47 rfl rfl ?_
            refine v_iload_n (pc := 48) dX7_takesFactor_48 rfl rfl ?_
            refine v_iconst (pc := 49) (v := nI 1) dX7_takesFactor_49 (by decide) ?_
            refine v_iaddN (pc := 50) dX7_takesFactor_50 ?_
            refine v_ci (pc := 51) (v_rV (c_X7_takesEither_3 G l hT hP41) rfl kV_X7_62 (v_rcO hT.1 rfl (by decide)) ⟨Nat.le_of_ble_eq_true rfl, Nat.le_of_ble_eq_true rfl⟩ ⟨Nat.le_of_ble_eq_true rfl, Nat.le_of_ble_eq_true rfl⟩ dX7_takesFactor_51 (Nat.le_of_ble_eq_true rfl)) (fun x51 M51 h51 => ?_)
            skip
            obtain ⟨I51, rfl, s51, ⟨e1, rfl, e3⟩ | ⟨k, e1, rfl, e3⟩⟩ := h51
            · have eW : p_F T 4 i = ((p_E T 3 (i + 1)).1, none) := by rw [p_F_s, if_neg c11, if_pos c44, p_b_n e1]
              refine v_if_eqN (pc := 54) (tgt := 70) (by omega) dX7_takesFactor_54 (by decide) (fun c54 => ?_) (fun c54 => ?_)
              · refine v_iconst (pc := 70) (v := nI 0) dX7_takesFactor_70 (by decide) ?_
                exact v_iret (pc := 71) dX7_takesFactor_71 rfl rfl (Nat.le_of_ble_eq_true rfl) (Nat.le_of_ble_eq_true rfl) ⟨_, rfl, kS_tr s8 (kS_tr s41 s51), Or.inl ⟨by rw [eW], rfl, by rw [eW]; exact e3⟩⟩
              · exact absurd rfl c54
            · refine v_if_eqN (pc := 54) (tgt := 70) (by omega) dX7_takesFactor_54 (by decide) (fun c54 => ?_) (fun c54 => ?_)
              · exact absurd c54 (by decide)
              · refine v_aload_n (pc := 57) dX7_takesFactor_57 rfl rfl ?_
                refine v_bipush (pc := 58) (v := nI 41) dX7_takesFactor_58 (by decide) ?_
                refine v_ci (pc := 60) (v_rV (c_X7_takes G l hT e3 (c := 41) (by decide)) rfl kV_X7_47 (v_rcO hT.1 rfl (by decide)) ⟨Nat.le_of_ble_eq_true rfl, Nat.le_of_ble_eq_true rfl⟩ ⟨Nat.le_of_ble_eq_true rfl, Nat.le_of_ble_eq_true rfl⟩ dX7_takesFactor_60 (Nat.le_of_ble_eq_true rfl)) (fun x60 M60 h60 => ?_)
                obtain ⟨rfl, I60, rfl, s60, g60, n60⟩ := h60
                refine v_if_eqP (pc := 63) (tgt := 70) dX7_takesFactor_63 (by decide) (fun c63 => ?_) (fun c63 => ?_)
                · have eW : p_F T 4 i = ((p_E T 3 (i + 1)).1, none) := by rw [p_F_s, if_neg c11, if_pos c44, p_b_s e1, if_neg c63]
                  refine v_iconst (pc := 70) (v := nI 0) dX7_takesFactor_70 (by decide) ?_
                  exact v_iret (pc := 71) dX7_takesFactor_71 rfl rfl (Nat.le_of_ble_eq_true rfl) (Nat.le_of_ble_eq_true rfl) (by first | exact ⟨_, rfl, kS_tr s8 (kS_tr s41 (kS_tr s51 s60)), Or.inr ⟨_, by rw [eW], rfl, by rw [eW]; exact g60 c63⟩⟩ | exact ⟨_, rfl, kS_tr s8 (kS_tr s41 (kS_tr s51 s60)), Or.inl ⟨by rw [eW], rfl, by rw [eW]; exact (n60 c63).2.1.1⟩⟩)
                · have eW : p_F T 4 i = ((p_E T 3 (i + 1)).1 + 1, some k) := by rw [p_F_s, if_neg c11, if_pos c44, p_b_s e1, if_pos c63]
                  refine v_iconst (pc := 66) (v := nI 1) dX7_takesFactor_66 (by decide) ?_
                  refine v_goto (pc := 67) (tgt := 71) dX7_takesFactor_67 (by decide) ?_
                  exact v_iret (pc := 71) dX7_takesFactor_71 rfl rfl (Nat.le_of_ble_eq_true rfl) (Nat.le_of_ble_eq_true rfl) (by first | exact ⟨_, rfl, kS_tr s8 (kS_tr s41 (kS_tr s51 s60)), Or.inr ⟨_, by rw [eW], rfl, by rw [eW]; exact g60 c63⟩⟩ | exact ⟨_, rfl, kS_tr s8 (kS_tr s41 (kS_tr s51 s60)), Or.inl ⟨by rw [eW], rfl, by rw [eW]; exact (n60 c63).2.1.1⟩⟩)
      · have hP8 := g8 c11
        have hF := PP_F T 3 (i + 1) hP8.2.1.2
        have hks := hP.2.2.1.2
        refine v_aload_n (pc := 14) dX7_takesFactor_14 rfl rfl ?_
        refine v_iload_n (pc := 15) dX7_takesFactor_15 rfl rfl ?_
        refine v_iconst (pc := 16) (v := nI 1) dX7_takesFactor_16 (by decide) ?_
        refine v_iaddN (pc := 17) dX7_takesFactor_17 ?_
        refine v_ci (pc := 18) (v_rV (c_X7_takesFactor_3 G l hT hP8) rfl kV_X7_98 (v_rcO hT.1 rfl (by decide)) ⟨Nat.le_of_ble_eq_true rfl, Nat.le_of_ble_eq_true rfl⟩ ⟨Nat.le_of_ble_eq_true rfl, Nat.le_of_ble_eq_true rfl⟩ dX7_takesFactor_18 (Nat.le_of_ble_eq_true rfl)) (fun x18 M18 h18 => ?_)
        skip
        obtain ⟨I18, rfl, s18, ⟨e1, rfl, e3⟩ | ⟨k, e1, rfl, e3⟩⟩ := h18
        · have eW : p_F T 4 i = ((p_F T 3 (i + 1)).1, none) := by rw [p_F_s, if_pos c11, p_b_n e1]
          refine v_if_neN (pc := 21) (tgt := 26) (by omega) dX7_takesFactor_21 (by decide) (fun c21 => ?_) (fun c21 => ?_)
          · exact absurd rfl c21
          · refine v_iconst (pc := 24) (v := nI 0) dX7_takesFactor_24 (by decide) ?_
            exact v_iret (pc := 25) dX7_takesFactor_25 rfl rfl (Nat.le_of_ble_eq_true rfl) (Nat.le_of_ble_eq_true rfl) ⟨_, rfl, kS_tr s8 s18, Or.inl ⟨by rw [eW], rfl, by rw [eW]; exact e3⟩⟩
        · have eW : p_F T 4 i = ((p_F T 3 (i + 1)).1, some (k ++ [0])) := by rw [p_F_s, if_pos c11, p_b_s e1]
          have hl9 := (hF.2.2 k e1).1
          refine v_if_neN (pc := 21) (tgt := 26) (by omega) dX7_takesFactor_21 (by decide) (fun c21 => ?_) (fun c21 => ?_)
          · refine v_aload_n (pc := 26) dX7_takesFactor_26 rfl rfl ?_
            refine v_iconst (pc := 27) (v := -1) dX7_takesFactor_27 (by decide) ?_
            refine v_cv (pc := 28) (v_rV (c_X7_keep G l hT e3 (k := 0) (by rw [List.length_append]; dsimp only; omega)) rfl kV_X7_94 (v_rcO hT.1 rfl (by decide)) ⟨Nat.le_of_ble_eq_true rfl, Nat.le_of_ble_eq_true rfl⟩ ⟨Nat.le_of_ble_eq_true rfl, Nat.le_of_ble_eq_true rfl⟩ dX7_takesFactor_28 (Nat.le_of_ble_eq_true rfl)) (fun M28 h28 => ?_)
            obtain ⟨I28, rfl, s28, q28⟩ := h28
            refine v_iconst (pc := 31) (v := nI 1) dX7_takesFactor_31 (by decide) ?_
            exact v_iret (pc := 32) dX7_takesFactor_32 rfl rfl (Nat.le_of_ble_eq_true rfl) (Nat.le_of_ble_eq_true rfl) ⟨_, rfl, kS_tr s8 (kS_tr s18 s28), Or.inr ⟨_, by rw [eW], rfl, by rw [eW]; rw [List.append_assoc] at q28; exact q28⟩⟩
          · exact absurd c21 (by decide)
abbrev rm_X7_takesBoth_4 : Room := { frames := 22, cells := 0, slots := 0, locals := 920 }
set_option maxRecDepth 20000 in
theorem c_X7_takesBoth_4 (G : v_G) (l : Launch) {K : Nat × v_TY} {I : Nat → Nat → Int32} {J : Nat → Nat → Int64} {R : Nat → Nat → Option Nat} {t : Nat} {T : List Nat} {i : Nat} {ks : List Nat} (hT : TH K R t) (hP : CP7 I t T i ks) : v_M G l yX7_takesBoth cX7_takesBoth 3 (some .boolean) rm_X7_takesBoth_4 [.ref t, .int (nI 0)] (K, I, J, R) (v_Qi G (fun (x : Int32) (M' : v_MM) => ∃ I', M' = (K, I', J, R) ∧ RS I t T ks (p_sq T 38 1 (p_F T 4) i) (fun k => k) x I')) := by
  refine v_of [some (.ref t), some (.int (nI 0)), none] (by decide) (Nat.le_of_ble_eq_true rfl) (Nat.le_of_ble_eq_true rfl) rfl ?_
  have key : ∀ n, n ≤ 100 → ∀ (Ij : Nat → Nat → Int32) (q : Nat) (acc : List Nat), CP7 Ij t T q (ks ++ acc) → kS t I Ij → i + acc.length ≤ q → p_lp T 38 1 (p_F T 4) (100 - n) q acc = p_sq T 38 1 (p_F T 4) i → v_V G l yX7_takesBoth cX7_takesBoth 3 (some .boolean) rm_X7_takesBoth_4 (v_Qi G (fun (x : Int32) (M' : v_MM) => ∃ I', M' = (K, I', J, R) ∧ RS I t T ks (p_sq T 38 1 (p_F T 4) i) (fun k => k) x I')) 0 0 12 [some (.ref t), some (.int (nI 0)), some (.int (nI n))] [] (K, Ij, J, R) := by
    refine v_down 100 (fun n hn ih => ?_)
    intro Ij q acc hQ hk hia he
    refine v_iload_n (pc := 12) dX7_takesBoth_12 rfl rfl ?_
    refine v_bipush (pc := 13) (v := nI 100) dX7_takesBoth_13 (by decide) ?_
    refine v_icmp_geN (pc := 15) (tgt := 49) ⟨by omega, by omega⟩ dX7_takesBoth_15 (by decide) (fun c15 => ?_) (fun c15 => ?_)
    · have eW : p_sq T 38 1 (p_F T 4) i = (q, some acc) := by rw [← he, show 100 - n = 0 by omega]; rfl
      have hQ9 := hQ
      have s9 := hk
      refine v_iconst (pc := 49) (v := nI 1) dX7_takesBoth_49 (by decide) ?_
      exact v_iret (pc := 50) dX7_takesBoth_50 rfl rfl (Nat.le_of_ble_eq_true rfl) (Nat.le_of_ble_eq_true rfl) ⟨_, rfl, s9, Or.inr ⟨_, by rw [eW], rfl, by rw [eW]; exact hQ9⟩⟩
    · refine v_aload_n (pc := 18) dX7_takesBoth_18 rfl rfl ?_
      refine v_bipush (pc := 19) (v := nI 38) dX7_takesBoth_19 (by decide) ?_
      refine v_ci (pc := 21) (v_rV (c_X7_takes G l hT hQ (c := 38) (by decide)) rfl kV_X7_47 (v_rcO hT.1 rfl (by decide)) ⟨Nat.le_of_ble_eq_true rfl, Nat.le_of_ble_eq_true rfl⟩ ⟨Nat.le_of_ble_eq_true rfl, Nat.le_of_ble_eq_true rfl⟩ dX7_takesBoth_21 (Nat.le_of_ble_eq_true rfl)) (fun x21 M21 h21 => ?_)
      obtain ⟨rfl, I21, rfl, s21, g21, n21⟩ := h21
      refine v_if_eqP (pc := 24) (tgt := 49) dX7_takesBoth_24 (by decide) (fun c24 => ?_) (fun c24 => ?_)
      · have eW : p_sq T 38 1 (p_F T 4) i = (q, some acc) := by rw [← he, p_lp_s (by omega), if_neg c24]
        have hQ9 := n21 c24
        have s9 := kS_tr hk s21
        refine v_iconst (pc := 49) (v := nI 1) dX7_takesBoth_49 (by decide) ?_
        exact v_iret (pc := 50) dX7_takesBoth_50 rfl rfl (Nat.le_of_ble_eq_true rfl) (Nat.le_of_ble_eq_true rfl) ⟨_, rfl, s9, Or.inr ⟨_, by rw [eW], rfl, by rw [eW]; exact hQ9⟩⟩
      · have hQ1 := g21 c24
        have hF := (PP_F T 4) (q + 1) hQ1.2.1.2
        have hks := hP.2.2.1.2
        refine v_aload_n (pc := 27) dX7_takesBoth_27 rfl rfl ?_
        refine v_iload_n (pc := 28) dX7_takesBoth_28 rfl rfl ?_
        refine v_ci (pc := 29) (v_rV (c_X7_takesFactor_4 G l hT hQ1) rfl kV_X7_98 (v_rcO hT.1 rfl (by decide)) ⟨Nat.le_of_ble_eq_true rfl, Nat.le_of_ble_eq_true rfl⟩ ⟨Nat.le_of_ble_eq_true rfl, Nat.le_of_ble_eq_true rfl⟩ dX7_takesBoth_29 (Nat.le_of_ble_eq_true rfl)) (fun x29 M29 h29 => ?_)
        skip
        obtain ⟨I29, rfl, s29, ⟨e1, rfl, e3⟩ | ⟨k2, e1, rfl, e3⟩⟩ := h29
        · have eW : p_sq T 38 1 (p_F T 4) i = ((p_F T 4 (q + 1)).1, none) := by rw [← he, p_lp_s (by omega), if_pos c24, p_b_n e1]
          refine v_if_neN (pc := 32) (tgt := 37) (by omega) dX7_takesBoth_32 (by decide) (fun c32 => ?_) (fun c32 => ?_)
          · exact absurd rfl c32
          · refine v_iconst (pc := 35) (v := nI 0) dX7_takesBoth_35 (by decide) ?_
            exact v_iret (pc := 36) dX7_takesBoth_36 rfl rfl (Nat.le_of_ble_eq_true rfl) (Nat.le_of_ble_eq_true rfl) ⟨_, rfl, kS_tr hk (kS_tr s21 s29), Or.inl ⟨by rw [eW], rfl, by rw [eW]; exact e3⟩⟩
        · have hl9 := (hF.2.2 k2 e1).1
          refine v_if_neN (pc := 32) (tgt := 37) (by omega) dX7_takesBoth_32 (by decide) (fun c32 => ?_) (fun c32 => ?_)
          · refine v_aload_n (pc := 37) dX7_takesBoth_37 rfl rfl ?_
            refine v_bipush (pc := 38) (v := -2) dX7_takesBoth_38 (by decide) ?_
            refine v_cv (pc := 40) (v_rV (c_X7_keep G l hT e3 (k := 1) (by rw [List.length_append, List.length_append]; dsimp only; omega)) rfl kV_X7_94 (v_rcO hT.1 rfl (by decide)) ⟨Nat.le_of_ble_eq_true rfl, Nat.le_of_ble_eq_true rfl⟩ ⟨Nat.le_of_ble_eq_true rfl, Nat.le_of_ble_eq_true rfl⟩ dX7_takesBoth_40 (Nat.le_of_ble_eq_true rfl)) (fun M40 h40 => ?_)
            obtain ⟨I40, rfl, s40, q40⟩ := h40
            refine v_iincN (pc := 43) (b := 1) dX7_takesBoth_43 rfl (by decide) (by decide) rfl ?_
            refine v_goto (pc := 46) (tgt := 12) dX7_takesBoth_46 (by decide) ?_
            exact ih (n + 1) (by omega) (by omega) I40 _ (acc ++ k2 ++ [1]) (by rw [List.append_assoc, List.append_assoc, ← List.append_assoc acc, ← List.append_assoc ks] at q40; rw [← List.append_assoc]; exact q40) (kS_tr hk (kS_tr s21 (kS_tr s29 s40))) (by rw [List.length_append, List.length_append]; show i + (_ + _ + 1) ≤ _; omega) (by rw [← he, p_lp_s (n := n) (by omega), if_pos c24, p_b_s e1])
          · exact absurd c32 (by decide)
  · refine v_aload_n (pc := 0) dX7_takesBoth_0 rfl rfl ?_
    refine v_iload_n (pc := 1) dX7_takesBoth_1 rfl rfl ?_
    refine v_ci (pc := 2) (v_rV (c_X7_takesFactor_4 G l hT hP) rfl kV_X7_98 (v_rcO hT.1 rfl (by decide)) ⟨Nat.le_of_ble_eq_true rfl, Nat.le_of_ble_eq_true rfl⟩ ⟨Nat.le_of_ble_eq_true rfl, Nat.le_of_ble_eq_true rfl⟩ dX7_takesBoth_2 (Nat.le_of_ble_eq_true rfl)) (fun x2 M2 h2 => ?_)
    skip
    obtain ⟨I2, rfl, s2, ⟨e1, rfl, e3⟩ | ⟨k, e1, rfl, e3⟩⟩ := h2
    · have eW : p_sq T 38 1 (p_F T 4) i = ((p_F T 4 i).1, none) := p_b_n e1
      refine v_if_neN (pc := 5) (tgt := 10) (by omega) dX7_takesBoth_5 (by decide) (fun c5 => ?_) (fun c5 => ?_)
      · exact absurd rfl c5
      · refine v_iconst (pc := 8) (v := nI 0) dX7_takesBoth_8 (by decide) ?_
        exact v_iret (pc := 9) dX7_takesBoth_9 rfl rfl (Nat.le_of_ble_eq_true rfl) (Nat.le_of_ble_eq_true rfl) ⟨_, rfl, s2, Or.inl ⟨by rw [eW], rfl, by rw [eW]; exact e3⟩⟩
    · refine v_if_neN (pc := 5) (tgt := 10) (by omega) dX7_takesBoth_5 (by decide) (fun c5 => ?_) (fun c5 => ?_)
      · refine v_iconst (pc := 10) (v := nI 0) dX7_takesBoth_10 (by decide) ?_
        refine v_istore_n (pc := 11) dX7_takesBoth_11 rfl (by decide) rfl ?_
        exact key 0 (by decide) I2 _ k e3 s2 ((PP_F T 4) i hP.2.1.2 |>.2.2 k e1).1 (p_b_s e1).symm
      · exact absurd c5 (by decide)
abbrev rm_X7_takesEither_4 : Room := { frames := 23, cells := 0, slots := 0, locals := 960 }
set_option maxRecDepth 20000 in
theorem c_X7_takesEither_4 (G : v_G) (l : Launch) {K : Nat × v_TY} {I : Nat → Nat → Int32} {J : Nat → Nat → Int64} {R : Nat → Nat → Option Nat} {t : Nat} {T : List Nat} {i : Nat} {ks : List Nat} (hT : TH K R t) (hP : CP7 I t T i ks) : v_M G l yX7_takesEither cX7_takesEither 3 (some .boolean) rm_X7_takesEither_4 [.ref t, .int (nI 0)] (K, I, J, R) (v_Qi G (fun (x : Int32) (M' : v_MM) => ∃ I', M' = (K, I', J, R) ∧ RS I t T ks (p_E T 4 i) (fun k => k) x I')) := by
  refine v_of [some (.ref t), some (.int (nI 0)), none] (by decide) (Nat.le_of_ble_eq_true rfl) (Nat.le_of_ble_eq_true rfl) rfl ?_
  have key : ∀ n, n ≤ 100 → ∀ (Ij : Nat → Nat → Int32) (q : Nat) (acc : List Nat), CP7 Ij t T q (ks ++ acc) → kS t I Ij → i + acc.length ≤ q → p_lp T 124 2 (p_sq T 38 1 (p_F T 4)) (100 - n) q acc = p_E T 4 i → v_V G l yX7_takesEither cX7_takesEither 3 (some .boolean) rm_X7_takesEither_4 (v_Qi G (fun (x : Int32) (M' : v_MM) => ∃ I', M' = (K, I', J, R) ∧ RS I t T ks (p_E T 4 i) (fun k => k) x I')) 0 0 12 [some (.ref t), some (.int (nI 0)), some (.int (nI n))] [] (K, Ij, J, R) := by
    refine v_down 100 (fun n hn ih => ?_)
    intro Ij q acc hQ hk hia he
    refine v_iload_n (pc := 12) dX7_takesEither_12 rfl rfl ?_
    refine v_bipush (pc := 13) (v := nI 100) dX7_takesEither_13 (by decide) ?_
    refine v_icmp_geN (pc := 15) (tgt := 49) ⟨by omega, by omega⟩ dX7_takesEither_15 (by decide) (fun c15 => ?_) (fun c15 => ?_)
    · have eW : p_E T 4 i = (q, some acc) := by rw [← he, show 100 - n = 0 by omega]; rfl
      have hQ9 := hQ
      have s9 := hk
      refine v_iconst (pc := 49) (v := nI 1) dX7_takesEither_49 (by decide) ?_
      exact v_iret (pc := 50) dX7_takesEither_50 rfl rfl (Nat.le_of_ble_eq_true rfl) (Nat.le_of_ble_eq_true rfl) ⟨_, rfl, s9, Or.inr ⟨_, by rw [eW], rfl, by rw [eW]; exact hQ9⟩⟩
    · refine v_aload_n (pc := 18) dX7_takesEither_18 rfl rfl ?_
      refine v_bipush (pc := 19) (v := nI 124) dX7_takesEither_19 (by decide) ?_
      refine v_ci (pc := 21) (v_rV (c_X7_takes G l hT hQ (c := 124) (by decide)) rfl kV_X7_47 (v_rcO hT.1 rfl (by decide)) ⟨Nat.le_of_ble_eq_true rfl, Nat.le_of_ble_eq_true rfl⟩ ⟨Nat.le_of_ble_eq_true rfl, Nat.le_of_ble_eq_true rfl⟩ dX7_takesEither_21 (Nat.le_of_ble_eq_true rfl)) (fun x21 M21 h21 => ?_)
      obtain ⟨rfl, I21, rfl, s21, g21, n21⟩ := h21
      refine v_if_eqP (pc := 24) (tgt := 49) dX7_takesEither_24 (by decide) (fun c24 => ?_) (fun c24 => ?_)
      · have eW : p_E T 4 i = (q, some acc) := by rw [← he, p_lp_s (by omega), if_neg c24]
        have hQ9 := n21 c24
        have s9 := kS_tr hk s21
        refine v_iconst (pc := 49) (v := nI 1) dX7_takesEither_49 (by decide) ?_
        exact v_iret (pc := 50) dX7_takesEither_50 rfl rfl (Nat.le_of_ble_eq_true rfl) (Nat.le_of_ble_eq_true rfl) ⟨_, rfl, s9, Or.inr ⟨_, by rw [eW], rfl, by rw [eW]; exact hQ9⟩⟩
      · have hQ1 := g21 c24
        have hF := (PP_sq (T := T) (sep := 38) (op := 1) (PP_F T 4) (by decide) (Or.inl rfl)) (q + 1) hQ1.2.1.2
        have hks := hP.2.2.1.2
        refine v_aload_n (pc := 27) dX7_takesEither_27 rfl rfl ?_
        refine v_iload_n (pc := 28) dX7_takesEither_28 rfl rfl ?_
        refine v_ci (pc := 29) (v_rV (c_X7_takesBoth_4 G l hT hQ1) rfl kV_X7_91 (v_rcO hT.1 rfl (by decide)) ⟨Nat.le_of_ble_eq_true rfl, Nat.le_of_ble_eq_true rfl⟩ ⟨Nat.le_of_ble_eq_true rfl, Nat.le_of_ble_eq_true rfl⟩ dX7_takesEither_29 (Nat.le_of_ble_eq_true rfl)) (fun x29 M29 h29 => ?_)
        skip
        obtain ⟨I29, rfl, s29, ⟨e1, rfl, e3⟩ | ⟨k2, e1, rfl, e3⟩⟩ := h29
        · have eW : p_E T 4 i = ((p_sq T 38 1 (p_F T 4) (q + 1)).1, none) := by rw [← he, p_lp_s (by omega), if_pos c24, p_b_n e1]
          refine v_if_neN (pc := 32) (tgt := 37) (by omega) dX7_takesEither_32 (by decide) (fun c32 => ?_) (fun c32 => ?_)
          · exact absurd rfl c32
          · refine v_iconst (pc := 35) (v := nI 0) dX7_takesEither_35 (by decide) ?_
            exact v_iret (pc := 36) dX7_takesEither_36 rfl rfl (Nat.le_of_ble_eq_true rfl) (Nat.le_of_ble_eq_true rfl) ⟨_, rfl, kS_tr hk (kS_tr s21 s29), Or.inl ⟨by rw [eW], rfl, by rw [eW]; exact e3⟩⟩
        · have hl9 := (hF.2.2 k2 e1).1
          refine v_if_neN (pc := 32) (tgt := 37) (by omega) dX7_takesEither_32 (by decide) (fun c32 => ?_) (fun c32 => ?_)
          · refine v_aload_n (pc := 37) dX7_takesEither_37 rfl rfl ?_
            refine v_bipush (pc := 38) (v := -3) dX7_takesEither_38 (by decide) ?_
            refine v_cv (pc := 40) (v_rV (c_X7_keep G l hT e3 (k := 2) (by rw [List.length_append, List.length_append]; dsimp only; omega)) rfl kV_X7_94 (v_rcO hT.1 rfl (by decide)) ⟨Nat.le_of_ble_eq_true rfl, Nat.le_of_ble_eq_true rfl⟩ ⟨Nat.le_of_ble_eq_true rfl, Nat.le_of_ble_eq_true rfl⟩ dX7_takesEither_40 (Nat.le_of_ble_eq_true rfl)) (fun M40 h40 => ?_)
            obtain ⟨I40, rfl, s40, q40⟩ := h40
            refine v_iincN (pc := 43) (b := 1) dX7_takesEither_43 rfl (by decide) (by decide) rfl ?_
            refine v_goto (pc := 46) (tgt := 12) dX7_takesEither_46 (by decide) ?_
            exact ih (n + 1) (by omega) (by omega) I40 _ (acc ++ k2 ++ [2]) (by rw [List.append_assoc, List.append_assoc, ← List.append_assoc acc, ← List.append_assoc ks] at q40; rw [← List.append_assoc]; exact q40) (kS_tr hk (kS_tr s21 (kS_tr s29 s40))) (by rw [List.length_append, List.length_append]; show i + (_ + _ + 1) ≤ _; omega) (by rw [← he, p_lp_s (n := n) (by omega), if_pos c24, p_b_s e1])
          · exact absurd c32 (by decide)
  · refine v_aload_n (pc := 0) dX7_takesEither_0 rfl rfl ?_
    refine v_iload_n (pc := 1) dX7_takesEither_1 rfl rfl ?_
    refine v_ci (pc := 2) (v_rV (c_X7_takesBoth_4 G l hT hP) rfl kV_X7_91 (v_rcO hT.1 rfl (by decide)) ⟨Nat.le_of_ble_eq_true rfl, Nat.le_of_ble_eq_true rfl⟩ ⟨Nat.le_of_ble_eq_true rfl, Nat.le_of_ble_eq_true rfl⟩ dX7_takesEither_2 (Nat.le_of_ble_eq_true rfl)) (fun x2 M2 h2 => ?_)
    skip
    obtain ⟨I2, rfl, s2, ⟨e1, rfl, e3⟩ | ⟨k, e1, rfl, e3⟩⟩ := h2
    · have eW : p_E T 4 i = ((p_sq T 38 1 (p_F T 4) i).1, none) := p_b_n e1
      refine v_if_neN (pc := 5) (tgt := 10) (by omega) dX7_takesEither_5 (by decide) (fun c5 => ?_) (fun c5 => ?_)
      · exact absurd rfl c5
      · refine v_iconst (pc := 8) (v := nI 0) dX7_takesEither_8 (by decide) ?_
        exact v_iret (pc := 9) dX7_takesEither_9 rfl rfl (Nat.le_of_ble_eq_true rfl) (Nat.le_of_ble_eq_true rfl) ⟨_, rfl, s2, Or.inl ⟨by rw [eW], rfl, by rw [eW]; exact e3⟩⟩
    · refine v_if_neN (pc := 5) (tgt := 10) (by omega) dX7_takesEither_5 (by decide) (fun c5 => ?_) (fun c5 => ?_)
      · refine v_iconst (pc := 10) (v := nI 0) dX7_takesEither_10 (by decide) ?_
        refine v_istore_n (pc := 11) dX7_takesEither_11 rfl (by decide) rfl ?_
        exact key 0 (by decide) I2 _ k e3 s2 ((PP_sq (T := T) (sep := 38) (op := 1) (PP_F T 4) (by decide) (Or.inl rfl)) i hP.2.1.2 |>.2.2 k e1).1 (p_b_s e1).symm
      · exact absurd c5 (by decide)
