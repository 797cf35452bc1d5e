/-! THE REFERENCE: numbers, steps, tests of the text -/
def w_pl : Option Nat → Int32
  | none => -1
  | some f => nI f
theorem tq_ne {I : Nat → Nat → Int32} {T : List Nat} (h : MTx I T) {i c : Nat} (hc : c < 128) (n : tx T i ≠ c) : (pkI T i).toInt ≠ (c : Int) := by
  intro e
  have : pkI T i = nI c := Int32.toInt_inj.mp (by rw [e, nI_toInt (by omega)])
  exact n ((tq_eq h hc).mp this)
theorem pl_cases {I : Nat → Nat → Int32} {T : List Nat} (h : MTx I T) (i : Nat) : (pkI T i = nI 97 ∧ p_le (tx T i) = some 0) ∨ (pkI T i = nI 98 ∧ p_le (tx T i) = some 1) ∨ (pkI T i = nI 100 ∧ p_le (tx T i) = some 3) ∨ (pkI T i = nI 101 ∧ p_le (tx T i) = some 4) ∨ (pkI T i = nI 102 ∧ p_le (tx T i) = some 2) ∨ (pkI T i = nI 121 ∧ p_le (tx T i) = some 5) ∨
    (p_le (tx T i) = none ∧ (pkI T i).toInt ≠ 97 ∧ (pkI T i).toInt ≠ 98 ∧ (pkI T i).toInt ≠ 100 ∧ (pkI T i).toInt ≠ 101 ∧ (pkI T i).toInt ≠ 102 ∧ (pkI T i).toInt ≠ 121) := by
  by_cases c1 : tx T i = 97
  · exact Or.inl ⟨(tq_eq h (by decide)).mpr c1, by rw [c1]; rfl⟩
  by_cases c2 : tx T i = 98
  · exact Or.inr (Or.inl ⟨(tq_eq h (by decide)).mpr c2, by rw [c2]; rfl⟩)
  by_cases c3 : tx T i = 100
  · exact Or.inr (Or.inr (Or.inl ⟨(tq_eq h (by decide)).mpr c3, by rw [c3]; rfl⟩))
  by_cases c4 : tx T i = 101
  · exact Or.inr (Or.inr (Or.inr (Or.inl ⟨(tq_eq h (by decide)).mpr c4, by rw [c4]; rfl⟩)))
  by_cases c5 : tx T i = 102
  · exact Or.inr (Or.inr (Or.inr (Or.inr (Or.inl ⟨(tq_eq h (by decide)).mpr c5, by rw [c5]; rfl⟩))))
  by_cases c6 : tx T i = 121
  · exact Or.inr (Or.inr (Or.inr (Or.inr (Or.inr (Or.inl ⟨(tq_eq h (by decide)).mpr c6, by rw [c6]; rfl⟩)))))
  exact Or.inr (Or.inr (Or.inr (Or.inr (Or.inr (Or.inr ⟨by simp [p_le, c1, c2, c3, c4, c5, c6], tq_ne h (by decide) c1, tq_ne h (by decide) c2, tq_ne h (by decide) c3, tq_ne h (by decide) c4, tq_ne h (by decide) c5, tq_ne h (by decide) c6⟩)))))
abbrev rm_X12_takesNumber : Room := { frames := 2, cells := 0, slots := 0, locals := 43 }
set_option maxRecDepth 20000 in
theorem c_X12_takesNumber (G : v_G) (l : Launch) {K : Nat × v_TY} {I : Nat → Nat → Int32} {J : Nat → Nat → Int64} {R : Nat → Nat → Option Nat} (hL : Lay K R) {T : List Nat} {i : Nat} (hT : MTx I T) (ha : I 55 11 = nI i) (hi : i ≤ T.length) : v_M G l yX12_takesNumber cX12_takesNumber 2 (some .boolean) rm_X12_takesNumber [.ref 55] (K, I, J, R) (v_Qi G (fun (x : Int32) (M' : v_MM) => x = v_p ((p_num T i).2.isSome = true) ∧ ∃ I', M' = (K, I', J, R) ∧ mD I I' ∧ I' 55 11 = nI (p_num T i).1 ∧ ∀ n, (p_num T i).2 = some n → I' 55 12 = nI n)) := by
  refine v_of [some (.ref 55), none] (by decide) (Nat.le_of_ble_eq_true rfl) (Nat.le_of_ble_eq_true rfl) rfl ?_
  have h100 := hT.2.1
  refine v_aload_n (pc := 0) dX12_takesNumber_0 rfl rfl ?_
  refine v_ci (pc := 1) (v_rV (c_X12_isDigit G l hL hT ha hi) rfl kV_X12_235 (v_rcO (li_55 hL) rfl (by decide)) ⟨Nat.le_of_ble_eq_true rfl, Nat.le_of_ble_eq_true rfl⟩ ⟨Nat.le_of_ble_eq_true rfl, Nat.le_of_ble_eq_true rfl⟩ dX12_takesNumber_1 (Nat.le_of_ble_eq_true rfl)) (fun x1 M1 h1 => ?_)
  obtain ⟨rfl, rfl⟩ := h1
  refine v_if_neP (pc := 4) (tgt := 9) dX12_takesNumber_4 (by decide) (fun c4 => ?_) (fun c4 => ?_)
  · have hd1 := of_decide_eq_true c4
    have hi1 := tx_lt (T := T) (i := i) (by omega)
    have hT2 : MTx (v_u I 55 12 (nI 0)) T := MTx_Y hT (mD_Y (c := 0) (s0 := 0) (mD_u mD_rf (Or.inr rfl)))
    have ha2 : v_u I 55 12 (nI 0) 55 11 = nI i := (v_u_k (by decide)).trans ha
    refine v_aload_n (pc := 9) dX12_takesNumber_9 rfl rfl ?_
    refine v_iconst (pc := 10) (v := nI 0) dX12_takesNumber_10 (by decide) ?_
    refine v_putI (pc := 11) pg_X12_47_12 (fun h => by cases h) dX12_takesNumber_11 (li_55 hL) rfl rfl ?_
    refine v_iconst (pc := 14) (v := nI 0) dX12_takesNumber_14 (by decide) ?_
    refine v_istore_n (pc := 15) dX12_takesNumber_15 rfl (by decide) rfl ?_
    refine v_iload_n (pc := 16) dX12_takesNumber_16 rfl rfl ?_
    refine v_iconst (pc := 17) (v := nI 2) dX12_takesNumber_17 (by decide) ?_
    refine v_icmp_geN (pc := 18) (tgt := 63) ⟨by omega, by omega⟩ dX12_takesNumber_18 (by decide) (fun c18 => ?_) (fun c18 => ?_)
    · exact absurd c18 (by omega)
    · refine v_aload_n (pc := 21) dX12_takesNumber_21 rfl rfl ?_
      refine v_ci (pc := 22) (v_rV (c_X12_isDigit G l hL hT2 ha2 hi) rfl kV_X12_235 (v_rcO (li_55 hL) rfl (by decide)) ⟨Nat.le_of_ble_eq_true rfl, Nat.le_of_ble_eq_true rfl⟩ ⟨Nat.le_of_ble_eq_true rfl, Nat.le_of_ble_eq_true rfl⟩ dX12_takesNumber_22 (Nat.le_of_ble_eq_true rfl)) (fun x22 M22 h22 => ?_)
      obtain ⟨rfl, rfl⟩ := h22
      refine v_if_eqP (pc := 25) (tgt := 63) dX12_takesNumber_25 (by decide) (fun c25 => ?_) (fun c25 => ?_)
      · exact absurd c4 c25
      · refine v_aload_n (pc := 28) dX12_takesNumber_28 rfl rfl ?_
        refine v_bipush (pc := 29) (v := nI 10) dX12_takesNumber_29 (by decide) ?_
        refine v_aload_n (pc := 31) dX12_takesNumber_31 rfl rfl ?_
        refine v_getV (pc := 32) fg_X12_47_12 dX12_takesNumber_32 (li_55 hL) v_u_same ?_
        refine v_imulN (pc := 35) dX12_takesNumber_35 ?_
        refine v_aload_n (pc := 36) dX12_takesNumber_36 rfl rfl ?_
        refine v_ci (pc := 37) (v_rV (c_X12_peek G l hL hT2 ha2 hi) rfl kV_X12_229 (v_rcO (li_55 hL) rfl (by decide)) ⟨Nat.le_of_ble_eq_true rfl, Nat.le_of_ble_eq_true rfl⟩ ⟨Nat.le_of_ble_eq_true rfl, Nat.le_of_ble_eq_true rfl⟩ dX12_takesNumber_37 (Nat.le_of_ble_eq_true rfl)) (fun x37 M37 h37 => ?_)
        obtain ⟨rfl, rfl⟩ := h37
        refine v_top (tq_n (by omega)) ?_
        refine v_iaddN (pc := 40) dX12_takesNumber_40 ?_
        refine v_bipush (pc := 41) (v := nI 48) dX12_takesNumber_41 (by decide) ?_
        refine v_isubN (pc := 43) (by omega) dX12_takesNumber_43 ?_
        refine v_putI (pc := 44) pg_X12_47_12 (fun h => by cases h) dX12_takesNumber_44 (li_55 hL) rfl rfl ?_
        refine v_aload_n (pc := 47) dX12_takesNumber_47 rfl rfl ?_
        refine v_dup (pc := 48) dX12_takesNumber_48 rfl ?_
        refine v_getV (pc := 49) fg_X12_44_12 dX12_takesNumber_49 (li_55 hL) ((v_u_k (by decide)).trans ha2) ?_
        refine v_iconst (pc := 52) (v := nI 1) dX12_takesNumber_52 (by decide) ?_
        refine v_iaddN (pc := 53) dX12_takesNumber_53 ?_
        refine v_putI (pc := 54) pg_X12_44_12 (fun h => by cases h) dX12_takesNumber_54 (li_55 hL) rfl rfl ?_
        refine v_iincN (pc := 57) (b := 1) dX12_takesNumber_57 rfl (by decide) (by decide) rfl ?_
        refine v_goto (pc := 60) (tgt := 16) dX12_takesNumber_60 (by decide) ?_
        rw [v_u_u, show 10 * 0 + tx T i - 48 = tx T i - 48 by omega]
        have hT3 : MTx (v_u (v_u I 55 12 (nI (tx T i - 48))) 55 11 (nI (i + 1))) T := MTx_Y hT (mD_Y (c := 0) (s0 := 0) (mD_u (mD_u mD_rf (Or.inr rfl)) (Or.inl rfl)))
        refine v_iload_n (pc := 16) dX12_takesNumber_16 rfl rfl ?_
        refine v_iconst (pc := 17) (v := nI 2) dX12_takesNumber_17 (by decide) ?_
        refine v_icmp_geN (pc := 18) (tgt := 63) ⟨by omega, by omega⟩ dX12_takesNumber_18 (by decide) (fun c18 => ?_) (fun c18 => ?_)
        · exact absurd c18 (by omega)
        · refine v_aload_n (pc := 21) dX12_takesNumber_21 rfl rfl ?_
          refine v_ci (pc := 22) (v_rV (c_X12_isDigit G l hL hT3 v_u_same hi1) rfl kV_X12_235 (v_rcO (li_55 hL) rfl (by decide)) ⟨Nat.le_of_ble_eq_true rfl, Nat.le_of_ble_eq_true rfl⟩ ⟨Nat.le_of_ble_eq_true rfl, Nat.le_of_ble_eq_true rfl⟩ dX12_takesNumber_22 (Nat.le_of_ble_eq_true rfl)) (fun x22 M22 h22 => ?_)
          obtain ⟨rfl, rfl⟩ := h22
          refine v_if_eqP (pc := 25) (tgt := 63) dX12_takesNumber_25 (by decide) (fun c25 => ?_) (fun c25 => ?_)
          · have er : p_num T i = (i + 1, some (tx T i - 48)) := (if_pos c4).trans (if_neg c25)
            refine v_iconst (pc := 63) (v := nI 1) dX12_takesNumber_63 (by decide) ?_
            exact v_iret (pc := 64) dX12_takesNumber_64 rfl rfl (Nat.le_of_ble_eq_true rfl) (Nat.le_of_ble_eq_true rfl) ⟨by rw [er]; exact v_po rfl, _, rfl, mD_u (mD_u mD_rf (Or.inr rfl)) (Or.inl rfl), by rw [er]; exact v_u_same, fun n hn => by rw [er] at hn; cases hn; exact (v_u_k (by decide)).trans v_u_same⟩
          · have er : p_num T i = (i + 2, some (10 * (tx T i - 48) + (tx T (i + 1) - 48))) := (if_pos c4).trans (if_pos c25)
            have hd2 := of_decide_eq_true c25
            refine v_aload_n (pc := 28) dX12_takesNumber_28 rfl rfl ?_
            refine v_bipush (pc := 29) (v := nI 10) dX12_takesNumber_29 (by decide) ?_
            refine v_aload_n (pc := 31) dX12_takesNumber_31 rfl rfl ?_
            refine v_getV (pc := 32) fg_X12_47_12 dX12_takesNumber_32 (li_55 hL) ((v_u_k (by decide)).trans v_u_same) ?_
            refine v_imulN (pc := 35) dX12_takesNumber_35 ?_
            refine v_aload_n (pc := 36) dX12_takesNumber_36 rfl rfl ?_
            refine v_ci (pc := 37) (v_rV (c_X12_peek G l hL hT3 v_u_same hi1) rfl kV_X12_229 (v_rcO (li_55 hL) rfl (by decide)) ⟨Nat.le_of_ble_eq_true rfl, Nat.le_of_ble_eq_true rfl⟩ ⟨Nat.le_of_ble_eq_true rfl, Nat.le_of_ble_eq_true rfl⟩ dX12_takesNumber_37 (Nat.le_of_ble_eq_true rfl)) (fun x37 M37 h37 => ?_)
            obtain ⟨rfl, rfl⟩ := h37
            refine v_top (tq_n (by omega)) ?_
            refine v_iaddN (pc := 40) dX12_takesNumber_40 ?_
            refine v_bipush (pc := 41) (v := nI 48) dX12_takesNumber_41 (by decide) ?_
            refine v_isubN (pc := 43) (by omega) dX12_takesNumber_43 ?_
            refine v_putI (pc := 44) pg_X12_47_12 (fun h => by cases h) dX12_takesNumber_44 (li_55 hL) rfl rfl ?_
            refine v_aload_n (pc := 47) dX12_takesNumber_47 rfl rfl ?_
            refine v_dup (pc := 48) dX12_takesNumber_48 rfl ?_
            refine v_getV (pc := 49) fg_X12_44_12 dX12_takesNumber_49 (li_55 hL) ((v_u_k (by decide)).trans v_u_same) ?_
            refine v_iconst (pc := 52) (v := nI 1) dX12_takesNumber_52 (by decide) ?_
            refine v_iaddN (pc := 53) dX12_takesNumber_53 ?_
            refine v_putI (pc := 54) pg_X12_44_12 (fun h => by cases h) dX12_takesNumber_54 (li_55 hL) rfl rfl ?_
            refine v_iincN (pc := 57) (b := 1) dX12_takesNumber_57 rfl (by decide) (by decide) rfl ?_
            refine v_goto (pc := 60) (tgt := 16) dX12_takesNumber_60 (by decide) ?_
            refine v_iload_n (pc := 16) dX12_takesNumber_16 rfl rfl ?_
            refine v_iconst (pc := 17) (v := nI 2) dX12_takesNumber_17 (by decide) ?_
            refine v_icmp_geN (pc := 18) (tgt := 63) ⟨by omega, by omega⟩ dX12_takesNumber_18 (by decide) (fun c18 => ?_) (fun c18 => ?_)
            · refine v_iconst (pc := 63) (v := nI 1) dX12_takesNumber_63 (by decide) ?_
              exact v_iret (pc := 64) dX12_takesNumber_64 rfl rfl (Nat.le_of_ble_eq_true rfl) (Nat.le_of_ble_eq_true rfl) ⟨by rw [er]; exact v_po rfl, _, rfl, mD_u (mD_u (mD_u (mD_u mD_rf (Or.inr rfl)) (Or.inl rfl)) (Or.inr rfl)) (Or.inl rfl), by rw [er]; exact v_u_same, fun n hn => by rw [er] at hn; cases hn; exact ((v_u_k (by decide)).trans v_u_same).trans (congrArg nI (by omega))⟩
            · exact absurd c18 (by omega)
  · have er : p_num T i = (i, none) := if_neg c4
    refine v_iconst (pc := 7) (v := nI 0) dX12_takesNumber_7 (by decide) ?_
    exact v_iret (pc := 8) dX12_takesNumber_8 rfl rfl (Nat.le_of_ble_eq_true rfl) (Nat.le_of_ble_eq_true rfl) ⟨by rw [er]; exact v_pz Bool.false_ne_true, I, rfl, mD_rf, by rw [er]; exact ha, fun n hn => by rw [er] at hn; cases hn⟩
abbrev rm_X12_emits : Room := { frames := 0, cells := 0, slots := 0, locals := 0 }
set_option maxRecDepth 20000 in
theorem c_X12_emits (G : v_G) (l : Launch) {K : Nat × v_TY} {I : Nat → Nat → Int32} {J : Nat → Nat → Int64} {R : Nat → Nat → Option Nat} (hL : Lay K R) {s : Int32} {n : Nat} (h : I 55 21 = nI n) (hn : n < 600) : v_M G l yX12_emits cX12_emits 2 none rm_X12_emits [.ref 55, .int s] (K, I, J, R) (v_Qv G (fun (M' : v_MM) => M' = (K, v_u (v_u I 67 n s) 55 21 (nI (n + 1)), J, R))) := by
  refine v_of [some (.ref 55), some (.int s)] (by decide) (Nat.le_of_ble_eq_true rfl) (Nat.le_of_ble_eq_true rfl) rfl ?_
  refine v_aload_n (pc := 0) dX12_emits_0 rfl rfl ?_
  refine v_getH (pc := 1) fg_X12_68_12 dX12_emits_1 (li_55 hL) (lr_55_19 hL) ?_
  refine v_aload_n (pc := 4) dX12_emits_4 rfl rfl ?_
  refine v_getV (pc := 5) fg_X12_74_12 dX12_emits_5 (li_55 hL) h ?_
  refine v_iload_n (pc := 8) dX12_emits_8 rfl rfl ?_
  refine v_iastoreN (pc := 9) dX12_emits_9 (li_67 hL) ⟨by omega, by omega⟩ ?_
  refine v_aload_n (pc := 10) dX12_emits_10 rfl rfl ?_
  refine v_dup (pc := 11) dX12_emits_11 rfl ?_
  refine v_getV (pc := 12) fg_X12_74_12 dX12_emits_12 (li_55 hL) ((v_u_h (by decide)).trans h) ?_
  refine v_iconst (pc := 15) (v := nI 1) dX12_emits_15 (by decide) ?_
  refine v_iaddN (pc := 16) dX12_emits_16 ?_
  refine v_putI (pc := 17) pg_X12_74_12 (fun h => by cases h) dX12_emits_17 (li_55 hL) rfl rfl ?_
  exact v_vret (pc := 20) dX12_emits_20 rfl (Nat.le_of_ble_eq_true rfl) (Nat.le_of_ble_eq_true rfl) rfl
theorem v_u_g {α : Type} {f : Nat → Nat → α} {h k a b : Nat} {x : α} (n : ¬ (a = h ∧ b = k)) : v_u f h k x a b = f a b := if_neg n
abbrev rm_X12_whole : Room := { frames := 1, cells := 0, slots := 0, locals := 21 }
set_option maxRecDepth 20000 in
theorem c_X12_whole (G : v_G) (l : Launch) {K : Nat × v_TY} {I : Nat → Nat → Int32} {J : Nat → Nat → Int64} {R : Nat → Nat → Option Nat} (hL : Lay K R) {T : List Nat} {f s0 i cc : Nat} {S ks : List Nat} (h : PX I T f s0 i S ks) : v_M G l yX12_whole cX12_whole 1 none rm_X12_whole [.ref 55] (K, I, J, R) (v_Qv G (fun (M' : v_MM) => ∃ I', M' = (K, I', J, R) ∧ mY cc s0 I I' ∧ PX I' T f s0 i (x_wh S ks).1 (x_wh S ks).2)) := by
  refine v_of [some (.ref 55)] (by decide) (Nat.le_of_ble_eq_true rfl) (Nat.le_of_ble_eq_true rfl) rfl ?_
  refine (v_meas (σ := List Nat × List Nat × (Nat → Nat → Int32)) (fun q => q.1.length) (P := fun q => PX q.2.2 T f s0 i q.1 q.2.1 → mY cc s0 I q.2.2 → x_wh q.1 q.2.1 = x_wh S ks → v_V G l yX12_whole cX12_whole 1 none rm_X12_whole (v_Qv G (fun (M' : v_MM) => ∃ I', M' = (K, I', J, R) ∧ mY cc s0 I I' ∧ PX I' T f s0 i (x_wh S ks).1 (x_wh S ks).2)) 0 0 0 [some (.ref 55)] [] (K, q.2.2, J, R)) (fun q ih => ?_) (S, ks, I)) h mY_rf rfl
  obtain ⟨S1, ks1, Ii⟩ := q
  intro hX hY he
  have ih2 : ∀ (S2 ks2 : List Nat) (I2 : Nat → Nat → Int32), S2.length < S1.length → PX I2 T f s0 i S2 ks2 → mY cc s0 I I2 → x_wh S2 ks2 = x_wh S ks → v_V G l yX12_whole cX12_whole 1 none rm_X12_whole (v_Qv G (fun (M' : v_MM) => ∃ I', M' = (K, I', J, R) ∧ mY cc s0 I I' ∧ PX I' T f s0 i (x_wh S ks).1 (x_wh S ks).2)) 0 0 0 [some (.ref 55)] [] (K, I2, J, R) := fun S2 ks2 I2 hl => ih (S2, ks2, I2) hl
  clear ih
  dsimp only at hX hY he ⊢
  have hl100 := hX.1.2.1
  have hi1 := hX.2.2.1
  have hs1 := hX.2.2.2.2.2.2.2.2.2.1
  have hb1 := hX.2.2.2.2.2.2.2.2.1
  have hf6 := hX.2.2.2.2.2.2.2.2.2.2
  rcases S1 with - | ⟨c, S1⟩
  · have hXw : Ii 55 22 = nI 0 := hX.2.2.2.1
    refine v_aload_n (pc := 0) dX12_whole_0 rfl rfl ?_
    refine v_getV (pc := 1) fg_X12_77_12 dX12_whole_1 (li_55 hL) hXw ?_
    refine v_if_leN (pc := 4) (tgt := 52) (by omega) dX12_whole_4 (by decide) (fun c4 => ?_) (fun c4 => ?_)
    · exact v_vret (pc := 52) dX12_whole_52 rfl (Nat.le_of_ble_eq_true rfl) (Nat.le_of_ble_eq_true rfl) ⟨Ii, rfl, hY, by rw [← he]; exact hX⟩
    · exact absurd c4 (by omega)
  · have hlc : (c :: S1).length = S1.length + 1 := rfl
    have hXw : Ii 55 22 = nI (S1.length + 1) := hX.2.2.2.1
    have hXo : Ii 55 23 = nI (opens (c :: S1)) := hX.2.2.2.2.1
    have hXs := hX.2.2.2.2.2.2.1
    have hwc : Ii 68 S1.length = nI c := hX.2.2.2.2.2.1.1
    have hc128 : c < 128 := hX.2.2.2.2.2.1.2.1
    refine v_aload_n (pc := 0) dX12_whole_0 rfl rfl ?_
    refine v_getV (pc := 1) fg_X12_77_12 dX12_whole_1 (li_55 hL) hXw ?_
    refine v_if_leN (pc := 4) (tgt := 52) (by omega) dX12_whole_4 (by decide) (fun c4 => ?_) (fun c4 => ?_)
    · exact absurd c4 (by omega)
    · refine v_aload_n (pc := 7) dX12_whole_7 rfl rfl ?_
      refine v_getH (pc := 8) fg_X12_71_12 dX12_whole_8 (li_55 hL) (lr_55_20 hL) ?_
      refine v_aload_n (pc := 11) dX12_whole_11 rfl rfl ?_
      refine v_getV (pc := 12) fg_X12_77_12 dX12_whole_12 (li_55 hL) hXw ?_
      refine v_iconst (pc := 15) (v := nI 1) dX12_whole_15 (by decide) ?_
      refine v_isubN (pc := 16) (by omega) dX12_whole_16 ?_
      refine v_top (show nI (S1.length + 1 - 1) = nI S1.length from rfl) ?_
      refine v_ialoadN (pc := 17) dX12_whole_17 (li_68 hL) ⟨by omega, by omega⟩ hwc ?_
      refine v_bipush (pc := 18) (v := nI 33) dX12_whole_18 (by decide) ?_
      refine v_icmp_neN (pc := 20) (tgt := 52) ⟨by omega, by omega⟩ dX12_whole_20 (by decide) (fun c20 => ?_) (fun c20 => ?_)
      · rw [x_wh_ne c20] at he
        exact v_vret (pc := 52) dX12_whole_52 rfl (Nat.le_of_ble_eq_true rfl) (Nat.le_of_ble_eq_true rfl) ⟨Ii, rfl, hY, by rw [← he]; exact hX⟩
      · subst c20
        have ho : opens (33 :: S1) = opens S1 + 1 := rfl
        refine v_aload_n (pc := 23) dX12_whole_23 rfl rfl ?_
        refine v_bipush (pc := 24) (v := -33) dX12_whole_24 (by decide) ?_
        refine v_cv (pc := 26) (v_rV (c_X12_emits G l hL hXs (by omega)) rfl kV_X12_239 (v_rcO (li_55 hL) rfl (by decide)) ⟨Nat.le_of_ble_eq_true rfl, Nat.le_of_ble_eq_true rfl⟩ ⟨Nat.le_of_ble_eq_true rfl, Nat.le_of_ble_eq_true rfl⟩ dX12_whole_26 (Nat.le_of_ble_eq_true rfl)) (fun M26 h26 => ?_)
        subst h26
        refine v_aload_n (pc := 29) dX12_whole_29 rfl rfl ?_
        refine v_dup (pc := 30) dX12_whole_30 rfl ?_
        refine v_getV (pc := 31) fg_X12_77_12 dX12_whole_31 (li_55 hL) ((v_u_k (by decide)).trans ((v_u_h (by decide)).trans hXw)) ?_
        refine v_iconst (pc := 34) (v := nI 1) dX12_whole_34 (by decide) ?_
        refine v_isubN (pc := 35) (by omega) dX12_whole_35 ?_
        refine v_putI (pc := 36) pg_X12_77_12 (fun h => by cases h) dX12_whole_36 (li_55 hL) rfl rfl ?_
        refine v_aload_n (pc := 39) dX12_whole_39 rfl rfl ?_
        refine v_dup (pc := 40) dX12_whole_40 rfl ?_
        refine v_getV (pc := 41) fg_X12_80_12 dX12_whole_41 (li_55 hL) ((v_u_k (by decide)).trans ((v_u_k (by decide)).trans ((v_u_h (by decide)).trans hXo))) ?_
        refine v_iconst (pc := 44) (v := nI 1) dX12_whole_44 (by decide) ?_
        refine v_isubN (pc := 45) (by omega) dX12_whole_45 ?_
        refine v_putI (pc := 46) pg_X12_80_12 (fun h => by cases h) dX12_whole_46 (li_55 hL) rfl rfl ?_
        refine v_goto (pc := 49) (tgt := 0) dX12_whole_49 (by decide) ?_
        refine ih2 S1 (ks1 ++ [0]) _ (Nat.lt_succ_self _) (PX_pop hX (fun a z n1 n2 => ?_) ?_ ?_ ?_ ?_) ?_ he
        · rw [v_u_g (fun e => n1 ⟨e.1, Or.inr (Or.inl e.2)⟩), v_u_g (fun e => n1 ⟨e.1, Or.inl e.2⟩), v_u_g (fun e => n1 ⟨e.1, Or.inr (Or.inr e.2)⟩), v_u_g n2]
        · rw [v_u_k (by decide), v_u_same]; rfl
        · rw [v_u_same, ho]; rfl
        · rw [v_u_k (by decide), v_u_k (by decide), v_u_same]
        · rw [v_u_h (by decide), v_u_h (by decide), v_u_h (by decide), v_u_same]; rfl
        · exact mY_at (mY_at (mY_at (mY_u hY (Or.inr (Or.inr (Or.inl ⟨rfl, by omega⟩)))) (by omega)) (by omega)) (by omega)
abbrev rm_X12_settle : Room := { frames := 1, cells := 0, slots := 0, locals := 21 }
set_option maxRecDepth 20000 in
theorem c_X12_settle (G : v_G) (l : Launch) {K : Nat × v_TY} {I : Nat → Nat → Int32} {J : Nat → Nat → Int64} {R : Nat → Nat → Option Nat} (hL : Lay K R) {s : Nat} {T : List Nat} {f s0 i cc : Nat} {S ks : List Nat} (h : PX I T f s0 i S ks) (hs : s = 38 ∨ s = 124) : v_M G l yX12_settle cX12_settle 2 none rm_X12_settle [.ref 55, .int (nI s)] (K, I, J, R) (v_Qv G (fun (M' : v_MM) => ∃ I', M' = (K, I', J, R) ∧ mY cc s0 I I' ∧ PX I' T f s0 i (x_st s S ks).1 (x_st s S ks).2)) := by
  refine v_of [some (.ref 55), some (.int (nI s))] (by decide) (Nat.le_of_ble_eq_true rfl) (Nat.le_of_ble_eq_true rfl) rfl ?_
  refine (v_meas (σ := List Nat × List Nat × (Nat → Nat → Int32)) (fun q => q.1.length) (P := fun q => PX q.2.2 T f s0 i q.1 q.2.1 → mY cc s0 I q.2.2 → x_st s q.1 q.2.1 = x_st s S ks → v_V G l yX12_settle cX12_settle 2 none rm_X12_settle (v_Qv G (fun (M' : v_MM) => ∃ I', M' = (K, I', J, R) ∧ mY cc s0 I I' ∧ PX I' T f s0 i (x_st s S ks).1 (x_st s S ks).2)) 0 0 0 [some (.ref 55), some (.int (nI s))] [] (K, q.2.2, J, R)) (fun q ih => ?_) (S, ks, I)) h mY_rf rfl
  obtain ⟨S1, ks1, Ii⟩ := q
  intro hX hY he
  have ih2 : ∀ (S2 ks2 : List Nat) (I2 : Nat → Nat → Int32), S2.length < S1.length → PX I2 T f s0 i S2 ks2 → mY cc s0 I I2 → x_st s S2 ks2 = x_st s S ks → v_V G l yX12_settle cX12_settle 2 none rm_X12_settle (v_Qv G (fun (M' : v_MM) => ∃ I', M' = (K, I', J, R) ∧ mY cc s0 I I' ∧ PX I' T f s0 i (x_st s S ks).1 (x_st s S ks).2)) 0 0 0 [some (.ref 55), some (.int (nI s))] [] (K, I2, J, R) := fun S2 ks2 I2 hl => ih (S2, ks2, I2) hl
  clear ih
  dsimp only at hX hY he ⊢
  have hl100 := hX.1.2.1
  have hi1 := hX.2.2.1
  have hs1 := hX.2.2.2.2.2.2.2.2.2.1
  have hb1 := hX.2.2.2.2.2.2.2.2.1
  have hf6 := hX.2.2.2.2.2.2.2.2.2.2
  rcases S1 with - | ⟨c, S1⟩
  · have hXw : Ii 55 22 = nI 0 := hX.2.2.2.1
    refine v_aload_n (pc := 0) dX12_settle_0 rfl rfl ?_
    refine v_getV (pc := 1) fg_X12_77_12 dX12_settle_1 (li_55 hL) hXw ?_
    refine v_if_leN (pc := 4) (tgt := 72) (by omega) dX12_settle_4 (by decide) (fun c4 => ?_) (fun c4 => ?_)
    · exact v_vret (pc := 72) dX12_settle_72 rfl (Nat.le_of_ble_eq_true rfl) (Nat.le_of_ble_eq_true rfl) ⟨Ii, rfl, hY, by rw [← he]; exact hX⟩
    · exact absurd c4 (by omega)
  · have hlc : (c :: S1).length = S1.length + 1 := rfl
    have hXw : Ii 55 22 = nI (S1.length + 1) := hX.2.2.2.1
    have hXo : Ii 55 23 = nI (opens (c :: S1)) := hX.2.2.2.2.1
    have hXs := hX.2.2.2.2.2.2.1
    have hwc : Ii 68 S1.length = nI c := hX.2.2.2.2.2.1.1
    have hc128 : c < 128 := hX.2.2.2.2.2.1.2.1
    refine v_aload_n (pc := 0) dX12_settle_0 rfl rfl ?_
    refine v_getV (pc := 1) fg_X12_77_12 dX12_settle_1 (li_55 hL) hXw ?_
    refine v_if_leN (pc := 4) (tgt := 72) (by omega) dX12_settle_4 (by decide) (fun c4 => ?_) (fun c4 => ?_)
    · exact absurd c4 (by omega)
    · refine v_aload_n (pc := 7) dX12_settle_7 rfl rfl ?_
      refine v_getH (pc := 8) fg_X12_71_12 dX12_settle_8 (li_55 hL) (lr_55_20 hL) ?_
      refine v_aload_n (pc := 11) dX12_settle_11 rfl rfl ?_
      refine v_getV (pc := 12) fg_X12_77_12 dX12_settle_12 (li_55 hL) hXw ?_
      refine v_iconst (pc := 15) (v := nI 1) dX12_settle_15 (by decide) ?_
      refine v_isubN (pc := 16) (by omega) dX12_settle_16 ?_
      refine v_top (show nI (S1.length + 1 - 1) = nI S1.length from rfl) ?_
      refine v_ialoadN (pc := 17) dX12_settle_17 (li_68 hL) ⟨by omega, by omega⟩ hwc ?_
      refine v_bipush (pc := 18) (v := nI 38) dX12_settle_18 (by decide) ?_
      refine v_icmp_eqN (pc := 20) (tgt := 45) ⟨by omega, by omega⟩ dX12_settle_20 (by decide) (fun c20 => ?_) (fun c20 => ?_)
      · obtain ⟨k, hk, hpop, ho⟩ : ∃ k, -(nI c) = m_tok k ∧ x_st s (c :: S1) ks1 = x_st s S1 (ks1 ++ [k]) ∧ opens (c :: S1) = opens S1 := ⟨1, by rw [c20]; rfl, if_pos c20, by rw [c20]; rfl⟩
        refine v_aload_n (pc := 45) dX12_settle_45 rfl rfl ?_
        refine v_dup (pc := 46) dX12_settle_46 rfl ?_
        refine v_getV (pc := 47) fg_X12_77_12 dX12_settle_47 (li_55 hL) hXw ?_
        refine v_iconst (pc := 50) (v := nI 1) dX12_settle_50 (by decide) ?_
        refine v_isubN (pc := 51) (by omega) dX12_settle_51 ?_
        refine v_putI (pc := 52) pg_X12_77_12 (fun h => by cases h) dX12_settle_52 (li_55 hL) rfl rfl ?_
        refine v_aload_n (pc := 55) dX12_settle_55 rfl rfl ?_
        refine v_aload_n (pc := 56) dX12_settle_56 rfl rfl ?_
        refine v_getH (pc := 57) fg_X12_71_12 dX12_settle_57 (li_55 hL) (lr_55_20 hL) ?_
        refine v_aload_n (pc := 60) dX12_settle_60 rfl rfl ?_
        refine v_getV (pc := 61) fg_X12_77_12 dX12_settle_61 (li_55 hL) v_u_same ?_
        refine v_top (show nI (S1.length + 1 - 1) = nI S1.length from rfl) ?_
        refine v_ialoadN (pc := 64) dX12_settle_64 (li_68 hL) ⟨by omega, by omega⟩ ((v_u_h (by decide)).trans hwc) ?_
        refine v_ineg (pc := 65) dX12_settle_65 ?_
        refine v_top hk ?_
        refine v_cv (pc := 66) (v_rV (c_X12_emits G l hL ((v_u_k (by decide)).trans hXs) (by omega)) rfl kV_X12_239 (v_rcO (li_55 hL) rfl (by decide)) ⟨Nat.le_of_ble_eq_true rfl, Nat.le_of_ble_eq_true rfl⟩ ⟨Nat.le_of_ble_eq_true rfl, Nat.le_of_ble_eq_true rfl⟩ dX12_settle_66 (Nat.le_of_ble_eq_true rfl)) (fun M66 h66 => ?_)
        subst h66
        refine v_goto (pc := 69) (tgt := 0) dX12_settle_69 (by decide) ?_
        refine ih2 S1 (ks1 ++ [k]) _ (Nat.lt_succ_self _) (PX_pop hX (fun a z n1 n2 => ?_) ?_ ?_ ?_ ?_) ?_ (hpop.symm.trans he)
        · rw [v_u_g (fun e => n1 ⟨e.1, Or.inr (Or.inr e.2)⟩), v_u_g n2, v_u_g (fun e => n1 ⟨e.1, Or.inl e.2⟩)]
        · rw [v_u_k (by decide), v_u_h (by decide), v_u_same]; rfl
        · rw [v_u_k (by decide), v_u_h (by decide), v_u_k (by decide), hXo, ho]
        · rw [v_u_same]
        · rw [v_u_h (by decide), v_u_same]
        · exact mY_at (mY_u (mY_at hY (by omega)) (Or.inr (Or.inr (Or.inl ⟨rfl, by omega⟩)))) (by omega)
      · refine v_aload_n (pc := 23) dX12_settle_23 rfl rfl ?_
        refine v_getH (pc := 24) fg_X12_71_12 dX12_settle_24 (li_55 hL) (lr_55_20 hL) ?_
        refine v_aload_n (pc := 27) dX12_settle_27 rfl rfl ?_
        refine v_getV (pc := 28) fg_X12_77_12 dX12_settle_28 (li_55 hL) hXw ?_
        refine v_iconst (pc := 31) (v := nI 1) dX12_settle_31 (by decide) ?_
        refine v_isubN (pc := 32) (by omega) dX12_settle_32 ?_
        refine v_top (show nI (S1.length + 1 - 1) = nI S1.length from rfl) ?_
        refine v_ialoadN (pc := 33) dX12_settle_33 (li_68 hL) ⟨by omega, by omega⟩ hwc ?_
        refine v_bipush (pc := 34) (v := nI 124) dX12_settle_34 (by decide) ?_
        refine v_icmp_neN (pc := 36) (tgt := 72) ⟨by omega, by omega⟩ dX12_settle_36 (by decide) (fun c36 => ?_) (fun c36 => ?_)
        · have hst : x_st s (c :: S1) ks1 = (c :: S1, ks1) := (if_neg c20).trans (if_neg (fun z => c36 z.1))
          exact v_vret (pc := 72) dX12_settle_72 rfl (Nat.le_of_ble_eq_true rfl) (Nat.le_of_ble_eq_true rfl) ⟨Ii, rfl, hY, by rw [← he, hst]; exact hX⟩
        · refine v_iload_n (pc := 39) dX12_settle_39 rfl rfl ?_
          refine v_bipush (pc := 40) (v := nI 38) dX12_settle_40 (by decide) ?_
          refine v_icmp_eqN (pc := 42) (tgt := 72) ⟨by omega, by omega⟩ dX12_settle_42 (by decide) (fun c42 => ?_) (fun c42 => ?_)
          · have hst : x_st s (c :: S1) ks1 = (c :: S1, ks1) := (if_neg c20).trans (if_neg (fun z => z.2 c42))
            exact v_vret (pc := 72) dX12_settle_72 rfl (Nat.le_of_ble_eq_true rfl) (Nat.le_of_ble_eq_true rfl) ⟨Ii, rfl, hY, by rw [← he, hst]; exact hX⟩
          · obtain ⟨k, hk, hpop, ho⟩ : ∃ k, -(nI c) = m_tok k ∧ x_st s (c :: S1) ks1 = x_st s S1 (ks1 ++ [k]) ∧ opens (c :: S1) = opens S1 := ⟨2, by rw [c36]; rfl, (if_neg c20).trans (if_pos ⟨c36, c42⟩), by rw [c36]; rfl⟩
            refine v_aload_n (pc := 45) dX12_settle_45 rfl rfl ?_
            refine v_dup (pc := 46) dX12_settle_46 rfl ?_
            refine v_getV (pc := 47) fg_X12_77_12 dX12_settle_47 (li_55 hL) hXw ?_
            refine v_iconst (pc := 50) (v := nI 1) dX12_settle_50 (by decide) ?_
            refine v_isubN (pc := 51) (by omega) dX12_settle_51 ?_
            refine v_putI (pc := 52) pg_X12_77_12 (fun h => by cases h) dX12_settle_52 (li_55 hL) rfl rfl ?_
            refine v_aload_n (pc := 55) dX12_settle_55 rfl rfl ?_
            refine v_aload_n (pc := 56) dX12_settle_56 rfl rfl ?_
            refine v_getH (pc := 57) fg_X12_71_12 dX12_settle_57 (li_55 hL) (lr_55_20 hL) ?_
            refine v_aload_n (pc := 60) dX12_settle_60 rfl rfl ?_
            refine v_getV (pc := 61) fg_X12_77_12 dX12_settle_61 (li_55 hL) v_u_same ?_
            refine v_top (show nI (S1.length + 1 - 1) = nI S1.length from rfl) ?_
            refine v_ialoadN (pc := 64) dX12_settle_64 (li_68 hL) ⟨by omega, by omega⟩ ((v_u_h (by decide)).trans hwc) ?_
            refine v_ineg (pc := 65) dX12_settle_65 ?_
            refine v_top hk ?_
            refine v_cv (pc := 66) (v_rV (c_X12_emits G l hL ((v_u_k (by decide)).trans hXs) (by omega)) rfl kV_X12_239 (v_rcO (li_55 hL) rfl (by decide)) ⟨Nat.le_of_ble_eq_true rfl, Nat.le_of_ble_eq_true rfl⟩ ⟨Nat.le_of_ble_eq_true rfl, Nat.le_of_ble_eq_true rfl⟩ dX12_settle_66 (Nat.le_of_ble_eq_true rfl)) (fun M66 h66 => ?_)
            subst h66
            refine v_goto (pc := 69) (tgt := 0) dX12_settle_69 (by decide) ?_
            refine ih2 S1 (ks1 ++ [k]) _ (Nat.lt_succ_self _) (PX_pop hX (fun a z n1 n2 => ?_) ?_ ?_ ?_ ?_) ?_ (hpop.symm.trans he)
            · rw [v_u_g (fun e => n1 ⟨e.1, Or.inr (Or.inr e.2)⟩), v_u_g n2, v_u_g (fun e => n1 ⟨e.1, Or.inl e.2⟩)]
            · rw [v_u_k (by decide), v_u_h (by decide), v_u_same]; rfl
            · rw [v_u_k (by decide), v_u_h (by decide), v_u_k (by decide), hXo, ho]
            · rw [v_u_same]
            · rw [v_u_h (by decide), v_u_same]
            · exact mY_at (mY_u (mY_at hY (by omega)) (Or.inr (Or.inr (Or.inl ⟨rfl, by omega⟩)))) (by omega)
abbrev rm_X12_place : Room := { frames := 0, cells := 0, slots := 0, locals := 0 }
set_option maxRecDepth 20000 in
theorem c_X12_place (G : v_G) (l : Launch) {K : Nat × v_TY} {I : Nat → Nat → Int32} {J : Nat → Nat → Int64} {R : Nat → Nat → Option Nat} (hL : Lay K R) {T : List Nat} {i : Nat} (hT : MTx I T) : v_M G l yX12_place cX12_place 2 (some .int) rm_X12_place [.ref 55, .int (pkI T i)] (K, I, J, R) (v_Qi G (fun (x : Int32) (M' : v_MM) => x = w_pl (p_le (tx T i)) ∧ M' = (K, I, J, R))) := by
  refine v_of [some (.ref 55), some (.int (pkI T i))] (by decide) (Nat.le_of_ble_eq_true rfl) (Nat.le_of_ble_eq_true rfl) rfl ?_
  refine v_iload_n (pc := 0) dX12_place_0 rfl rfl ?_
  rcases pl_cases hT i with ⟨e1, e2⟩ | ⟨e1, e2⟩ | ⟨e1, e2⟩ | ⟨e1, e2⟩ | ⟨e1, e2⟩ | ⟨e1, e2⟩ | ⟨e2, e3⟩
  · rw [e1]
    refine v_lookup (pc := 1) (tgt := 60) dX12_place_1 (by decide) rfl (by decide) ?_
    refine v_iconst (pc := 60) (v := nI 0) dX12_place_60 (by decide) ?_
    exact v_iret (pc := 61) dX12_place_61 rfl rfl (Nat.le_of_ble_eq_true rfl) (Nat.le_of_ble_eq_true rfl) ⟨by rw [e2]; rfl, rfl⟩
  · rw [e1]
    refine v_lookup (pc := 1) (tgt := 62) dX12_place_1 (by decide) rfl (by decide) ?_
    refine v_iconst (pc := 62) (v := nI 1) dX12_place_62 (by decide) ?_
    exact v_iret (pc := 63) dX12_place_63 rfl rfl (Nat.le_of_ble_eq_true rfl) (Nat.le_of_ble_eq_true rfl) ⟨by rw [e2]; rfl, rfl⟩
  · rw [e1]
    refine v_lookup (pc := 1) (tgt := 66) dX12_place_1 (by decide) rfl (by decide) ?_
    refine v_iconst (pc := 66) (v := nI 3) dX12_place_66 (by decide) ?_
    exact v_iret (pc := 67) dX12_place_67 rfl rfl (Nat.le_of_ble_eq_true rfl) (Nat.le_of_ble_eq_true rfl) ⟨by rw [e2]; rfl, rfl⟩
  · rw [e1]
    refine v_lookup (pc := 1) (tgt := 68) dX12_place_1 (by decide) rfl (by decide) ?_
    refine v_iconst (pc := 68) (v := nI 4) dX12_place_68 (by decide) ?_
    exact v_iret (pc := 69) dX12_place_69 rfl rfl (Nat.le_of_ble_eq_true rfl) (Nat.le_of_ble_eq_true rfl) ⟨by rw [e2]; rfl, rfl⟩
  · rw [e1]
    refine v_lookup (pc := 1) (tgt := 64) dX12_place_1 (by decide) rfl (by decide) ?_
    refine v_iconst (pc := 64) (v := nI 2) dX12_place_64 (by decide) ?_
    exact v_iret (pc := 65) dX12_place_65 rfl rfl (Nat.le_of_ble_eq_true rfl) (Nat.le_of_ble_eq_true rfl) ⟨by rw [e2]; rfl, rfl⟩
  · rw [e1]
    refine v_lookup (pc := 1) (tgt := 70) dX12_place_1 (by decide) rfl (by decide) ?_
    refine v_iconst (pc := 70) (v := nI 5) dX12_place_70 (by decide) ?_
    exact v_iret (pc := 71) dX12_place_71 rfl rfl (Nat.le_of_ble_eq_true rfl) (Nat.le_of_ble_eq_true rfl) ⟨by rw [e2]; rfl, rfl⟩
  · refine v_lookup (pc := 1) (tgt := 72) dX12_place_1 (by decide) (by show Op.lookupswitch.offset [(97, 59), (98, 61), (100, 65), (101, 67), (102, 63), (121, 69)] 71 (pkI T i).toInt = 71; simp only [Op.lookupswitch.offset]; rw [if_neg (by omega), if_neg (by omega), if_neg (by omega), if_neg (by omega), if_neg (by omega), if_neg (by omega)]) (by decide) ?_
    refine v_iconst (pc := 72) (v := -1) dX12_place_72 (by decide) ?_
    exact v_iret (pc := 73) dX12_place_73 rfl rfl (Nat.le_of_ble_eq_true rfl) (Nat.le_of_ble_eq_true rfl) ⟨by rw [e2]; rfl, rfl⟩
abbrev rm_X12_takesTest : Room := { frames := 3, cells := 0, slots := 0, locals := 64 }
set_option maxRecDepth 20000 in
theorem c_X12_takesTest (G : v_G) (l : Launch) {K : Nat × v_TY} {I : Nat → Nat → Int32} {J : Nat → Nat → Int64} {R : Nat → Nat → Option Nat} (hL : Lay K R) {T : List Nat} {f s0 i cc : Nat} {S ks : List Nat} (h : PX I T f s0 i S ks) : v_M G l yX12_takesTest cX12_takesTest 3 (some .boolean) rm_X12_takesTest [.ref 55] (K, I, J, R) (v_Qi G (fun (x : Int32) (M' : v_MM) => x = v_p ((p_tst T i).2.isSome = true) ∧ ∃ I', M' = (K, I', J, R) ∧ mY cc s0 I I' ∧ I' 55 11 = nI (p_tst T i).1 ∧ ∀ t, (p_tst T i).2 = some t → PX I' T f s0 (p_tst T i).1 (x_wh S (ks ++ t)).1 (x_wh S (ks ++ t)).2)) := by
  refine v_of [some (.ref 55), none, none] (by decide) (Nat.le_of_ble_eq_true rfl) (Nat.le_of_ble_eq_true rfl) rfl ?_
  have hl100 := h.1.2.1
  have hi0 := h.2.2.1
  have hb0 := h.2.2.2.2.2.2.2.2.1
  have hf6 := h.2.2.2.2.2.2.2.2.2.2
  refine v_aload_n (pc := 0) dX12_takesTest_0 rfl rfl ?_
  refine v_aload_n (pc := 1) dX12_takesTest_1 rfl rfl ?_
  refine v_ci (pc := 2) (v_rV (c_X12_peek G l hL h.1 h.2.1 h.2.2.1) rfl kV_X12_229 (v_rcO (li_55 hL) rfl (by decide)) ⟨Nat.le_of_ble_eq_true rfl, Nat.le_of_ble_eq_true rfl⟩ ⟨Nat.le_of_ble_eq_true rfl, Nat.le_of_ble_eq_true rfl⟩ dX12_takesTest_2 (Nat.le_of_ble_eq_true rfl)) (fun x2 M2 h2 => ?_)
  obtain ⟨rfl, rfl⟩ := h2
  refine v_ci (pc := 5) (v_rV (c_X12_place G l hL h.1) rfl kV_X12_243 (v_rcO (li_55 hL) rfl (by decide)) ⟨Nat.le_of_ble_eq_true rfl, Nat.le_of_ble_eq_true rfl⟩ ⟨Nat.le_of_ble_eq_true rfl, Nat.le_of_ble_eq_true rfl⟩ dX12_takesTest_5 (Nat.le_of_ble_eq_true rfl)) (fun x5 M5 h5 => ?_)
  obtain ⟨rfl, rfl⟩ := h5
  refine v_istore_n (pc := 8) dX12_takesTest_8 rfl (by decide) rfl ?_
  rcases ep : p_le (tx T i) with - | g
  · have el : p_let T i = (i, none) := by unfold p_let; rw [ep]; rfl
    have er : p_tst T i = (i, none) := by unfold p_tst; rw [el]; rfl
    refine v_iload_n (pc := 9) dX12_takesTest_9 rfl rfl ?_
    refine v_if_ge (pc := 10) (tgt := 15) dX12_takesTest_10 (by decide) (fun c10 => ?_) (fun c10 => ?_)
    · exact absurd c10 (by decide)
    · refine v_iconst (pc := 13) (v := nI 0) dX12_takesTest_13 (by decide) ?_
      exact v_iret (pc := 14) dX12_takesTest_14 rfl rfl (Nat.le_of_ble_eq_true rfl) (Nat.le_of_ble_eq_true rfl) ⟨by rw [er]; exact v_pz Bool.false_ne_true, _, rfl, mY_rf, by rw [er]; exact h.2.1, fun t ht => by rw [er] at ht; cases ht⟩
  · have hg := p_le_ok ep
    have hi1 := tx_lt hg.2.1
    have el : p_let T i = (i + 1, some g) := by unfold p_let; rw [ep]; rfl
    have h25 : PX (v_u I 55 11 (nI (i + 1))) T f s0 (i + 1) S ks := PX_at h mD_at v_u_same (by omega) (by omega)
    refine v_lvs (lv' := [some (.ref 55), some (.int (nI g)), none]) rfl ?_
    refine v_iload_n (pc := 9) dX12_takesTest_9 rfl rfl ?_
    refine v_if_geN (pc := 10) (tgt := 15) (by omega) dX12_takesTest_10 (by decide) ?_
    refine v_aload_n (pc := 15) dX12_takesTest_15 rfl rfl ?_
    refine v_dup (pc := 16) dX12_takesTest_16 rfl ?_
    refine v_getV (pc := 17) fg_X12_44_12 dX12_takesTest_17 (li_55 hL) h.2.1 ?_
    refine v_iconst (pc := 20) (v := nI 1) dX12_takesTest_20 (by decide) ?_
    refine v_iaddN (pc := 21) dX12_takesTest_21 ?_
    refine v_putI (pc := 22) pg_X12_44_12 (fun h => by cases h) dX12_takesTest_22 (li_55 hL) rfl rfl ?_
    refine v_aload_n (pc := 25) dX12_takesTest_25 rfl rfl ?_
    refine v_ci (pc := 26) (v_rV (c_X12_peek G l hL h25.1 v_u_same h25.2.2.1) rfl kV_X12_229 (v_rcO (li_55 hL) rfl (by decide)) ⟨Nat.le_of_ble_eq_true rfl, Nat.le_of_ble_eq_true rfl⟩ ⟨Nat.le_of_ble_eq_true rfl, Nat.le_of_ble_eq_true rfl⟩ dX12_takesTest_26 (Nat.le_of_ble_eq_true rfl)) (fun x26 M26 h26 => ?_)
    obtain ⟨rfl, rfl⟩ := h26
    refine v_istore_n (pc := 29) dX12_takesTest_29 rfl (by decide) rfl ?_
    refine v_aload_n (pc := 30) dX12_takesTest_30 rfl rfl ?_
    refine v_iload_n (pc := 31) dX12_takesTest_31 rfl rfl ?_
    refine v_bipush (pc := 32) (v := nI 60) dX12_takesTest_32 (by decide) ?_
    refine v_bipush (pc := 34) (v := nI 62) dX12_takesTest_34 (by decide) ?_
    refine v_ci (pc := 36) (v_rV (c_X12_in G l hL) rfl kV_X12_197 (v_rcO (li_55 hL) rfl (by decide)) ⟨Nat.le_of_ble_eq_true rfl, Nat.le_of_ble_eq_true rfl⟩ ⟨Nat.le_of_ble_eq_true rfl, Nat.le_of_ble_eq_true rfl⟩ dX12_takesTest_36 (Nat.le_of_ble_eq_true rfl)) (fun x36 M36 h36 => ?_)
    obtain ⟨rfl, rfl⟩ := h36
    refine v_if_neP (pc := 39) (tgt := 44) dX12_takesTest_39 (by decide) (fun c39 => ?_) (fun c39 => ?_)
    · rw [tq_rng h.1 (by decide) (by decide)] at c39
      have hi2 := tx_lt (T := T) (i := i + 1) (by omega)
      have es : p_sgn T (i + 1) = (i + 1 + 1, some (tx T (i + 1) - 60)) := if_pos c39
      have h54 : PX (v_u (v_u I 55 11 (nI (i + 1))) 55 11 (nI (i + 1 + 1))) T f s0 (i + 1 + 1) S ks := PX_at h25 mD_at v_u_same (by omega) (by omega)
      refine v_aload_n (pc := 44) dX12_takesTest_44 rfl rfl ?_
      refine v_dup (pc := 45) dX12_takesTest_45 rfl ?_
      refine v_getV (pc := 46) fg_X12_44_12 dX12_takesTest_46 (li_55 hL) v_u_same ?_
      refine v_iconst (pc := 49) (v := nI 1) dX12_takesTest_49 (by decide) ?_
      refine v_iaddN (pc := 50) dX12_takesTest_50 ?_
      refine v_putI (pc := 51) pg_X12_44_12 (fun h => by cases h) dX12_takesTest_51 (li_55 hL) rfl rfl ?_
      refine v_aload_n (pc := 54) dX12_takesTest_54 rfl rfl ?_
      refine v_ci (pc := 55) (v_rV (c_X12_takesNumber G l hL h54.1 v_u_same h54.2.2.1) rfl kV_X12_246 (v_rcO (li_55 hL) rfl (by decide)) ⟨Nat.le_of_ble_eq_true rfl, Nat.le_of_ble_eq_true rfl⟩ ⟨Nat.le_of_ble_eq_true rfl, Nat.le_of_ble_eq_true rfl⟩ dX12_takesTest_55 (Nat.le_of_ble_eq_true rfl)) (fun x55 M55 h55 => ?_)
      obtain ⟨rfl, I55, rfl, d55, a55, n55⟩ := h55
      have hnum := p_num_ok (T := T) (i := i + 1 + 1) (by omega)
      have hY55 : mY cc s0 I I55 := mY_tr (mY_at (mY_at mY_rf (by omega)) (by omega)) (mD_Y d55)
      rcases en : p_num T (i + 1 + 1) with ⟨q, _ | d⟩ <;> rw [en] at hnum a55 n55
      · have er : p_tst T i = (q, none) := by unfold p_tst; rw [el, p_b1, es, p_b1, en]; rfl
        refine v_if_neP (pc := 58) (tgt := 63) dX12_takesTest_58 (by decide) (fun c58 => ?_) (fun c58 => ?_)
        · exact absurd c58 Bool.false_ne_true
        · refine v_iconst (pc := 61) (v := nI 0) dX12_takesTest_61 (by decide) ?_
          exact v_iret (pc := 62) dX12_takesTest_62 rfl rfl (Nat.le_of_ble_eq_true rfl) (Nat.le_of_ble_eq_true rfl) ⟨by rw [er]; exact v_pz Bool.false_ne_true, _, rfl, hY55, by rw [er]; exact a55, fun t ht => by rw [er] at ht; cases ht⟩
      · have er : p_tst T i = (q, some [300 * g + 100 * (tx T (i + 1) - 60) + d + 3]) := by unfold p_tst; rw [el, p_b1, es, p_b1, en]; rfl
        have hd := hnum.2.2 d rfl
        dsimp only at hd hnum
        have h58 : PX I55 T f s0 q S ks := PX_at h54 d55 a55 (by omega) hnum.1
        have hb8 := h58.2.2.2.2.2.2.2.2.1
        have ed : some d = some d := rfl
        have etok : nI (1000 * g + 100 * (tx T (i + 1) - 60) + d) = m_tok (300 * g + 100 * (tx T (i + 1) - 60) + d + 3) := by
          show _ = nI (1000 * ((300 * g + 100 * (tx T (i + 1) - 60) + d) / 300) + 100 * ((300 * g + 100 * (tx T (i + 1) - 60) + d) / 100 % 3) + (300 * g + 100 * (tx T (i + 1) - 60) + d) % 100)
          exact congrArg nI (by omega)
        have h85 := PX_em (k := 300 * g + 100 * (tx T (i + 1) - 60) + d + 3) h58 (by omega)
        refine v_if_neP (pc := 58) (tgt := 63) dX12_takesTest_58 (by decide) (fun c58 => ?_) (fun c58 => ?_)
        · rw [tq_n (show tx T (i + 1) ≠ 200 by omega)]
          refine v_aload_n (pc := 63) dX12_takesTest_63 rfl rfl ?_
          refine v_sipush (pc := 64) (v := nI 1000) dX12_takesTest_64 (by decide) ?_
          refine v_iload_n (pc := 67) dX12_takesTest_67 rfl rfl ?_
          refine v_imulN (pc := 68) dX12_takesTest_68 ?_
          refine v_bipush (pc := 69) (v := nI 100) dX12_takesTest_69 (by decide) ?_
          refine v_iload_n (pc := 71) dX12_takesTest_71 rfl rfl ?_
          refine v_bipush (pc := 72) (v := nI 60) dX12_takesTest_72 (by decide) ?_
          refine v_isubN (pc := 74) (by omega) dX12_takesTest_74 ?_
          refine v_imulN (pc := 75) dX12_takesTest_75 ?_
          refine v_iaddN (pc := 76) dX12_takesTest_76 ?_
          refine v_aload_n (pc := 77) dX12_takesTest_77 rfl rfl ?_
          refine v_getV (pc := 78) fg_X12_47_12 dX12_takesTest_78 (li_55 hL) (n55 d ed) ?_
          refine v_iaddN (pc := 81) dX12_takesTest_81 ?_
          refine v_top etok ?_
          refine v_cv (pc := 82) (v_rV (c_X12_emits G l hL h58.2.2.2.2.2.2.1 (by omega)) rfl kV_X12_239 (v_rcO (li_55 hL) rfl (by decide)) ⟨Nat.le_of_ble_eq_true rfl, Nat.le_of_ble_eq_true rfl⟩ ⟨Nat.le_of_ble_eq_true rfl, Nat.le_of_ble_eq_true rfl⟩ dX12_takesTest_82 (Nat.le_of_ble_eq_true rfl)) (fun M82 h82 => ?_)
          subst h82
          refine v_aload_n (pc := 85) dX12_takesTest_85 rfl rfl ?_
          refine v_cv (pc := 86) (v_rV (c_X12_whole G l hL (cc := cc) h85) rfl kV_X12_249 (v_rcO (li_55 hL) rfl (by decide)) ⟨Nat.le_of_ble_eq_true rfl, Nat.le_of_ble_eq_true rfl⟩ ⟨Nat.le_of_ble_eq_true rfl, Nat.le_of_ble_eq_true rfl⟩ dX12_takesTest_86 (Nat.le_of_ble_eq_true rfl)) (fun M86 h86 => ?_)
          obtain ⟨I86, rfl, y86, p86⟩ := h86
          refine v_iconst (pc := 89) (v := nI 1) dX12_takesTest_89 (by decide) ?_
          exact v_iret (pc := 90) dX12_takesTest_90 rfl rfl (Nat.le_of_ble_eq_true rfl) (Nat.le_of_ble_eq_true rfl) ⟨by rw [er]; exact v_po rfl, _, rfl, mY_tr (mY_at (mY_u hY55 (Or.inr (Or.inr (Or.inl ⟨rfl, by omega⟩)))) (by omega)) y86, by rw [er]; exact p86.2.1, fun t ht => by rw [er] at ht ⊢; cases ht; exact p86⟩
        · exact absurd rfl c58
    · rw [tq_rng h.1 (by decide) (by decide)] at c39
      have es : p_sgn T (i + 1) = (i + 1, none) := if_neg c39
      have er : p_tst T i = (i + 1, none) := by unfold p_tst; rw [el, p_b1, es]; rfl
      refine v_iconst (pc := 42) (v := nI 0) dX12_takesTest_42 (by decide) ?_
      exact v_iret (pc := 43) dX12_takesTest_43 rfl rfl (Nat.le_of_ble_eq_true rfl) (Nat.le_of_ble_eq_true rfl) ⟨by rw [er]; exact v_pz Bool.false_ne_true, _, rfl, mY_at mY_rf (by omega), by rw [er]; exact v_u_same, fun t ht => by rw [er] at ht; cases ht⟩
