/-! THE CLASS: its readers -/
def s_rf (n : Nat) (p q : Int32) : Int32 := match x_nat p n, x_nat q n with
  | some a, some c => if a = c then -2 else 0
  | _, _ => -1
theorem rf_cases {n : Nat} (hn : n < 2 ^ 31) (p q : Int32) : (s_rf n p q = -1 ∧ (x_nat p n = none ∨ x_nat q n = none)) ∨ (s_rf n p q = -2 ∧ ∃ a, a < n ∧ x_nat p n = some a ∧ x_nat q n = some a) ∨ (s_rf n p q = 0 ∧ ∃ a c, a < n ∧ c < n ∧ a ≠ c ∧ p = nI a ∧ q = nI c ∧ x_nat p n = some a ∧ x_nat q n = some c) := by
  rcases x_sw n hn p with ⟨a, ha, rfl, e1⟩ | ⟨e1, -⟩
  · rcases x_sw n hn q with ⟨c, hc, rfl, e2⟩ | ⟨e2, -⟩
    · by_cases e : a = c
      · subst e
        exact Or.inr (Or.inl ⟨by simp only [s_rf, e1]; exact if_pos trivial, a, ha, e1, e1⟩)
      · exact Or.inr (Or.inr ⟨by simp only [s_rf, e1, e2]; exact if_neg e, a, c, ha, hc, e, rfl, rfl, e1, e2⟩)
    · exact Or.inl ⟨by simp only [s_rf, e1, e2], Or.inr e2⟩
  · exact Or.inl ⟨by simp only [s_rf, e1], Or.inl e1⟩
theorem fg72 : ∀ k, v_fg yX11_of.cls 72 (p_ci k) 0 false
  | 0 => fg_X11_72_2
  | 1 => fg_X11_72_10
  | 2 => fg_X11_72_3
  | 3 => fg_X11_72_1
  | 4 => fg_X11_72_0
  | 5 => fg_X11_72_4
  | n + 6 => fg_X11_72_6
theorem fg77 : ∀ k, v_fg yX11_of.cls 77 (p_ci k) 2 false
  | 0 => fg_X11_77_2
  | 1 => fg_X11_77_10
  | 2 => fg_X11_77_3
  | 3 => fg_X11_77_1
  | 4 => fg_X11_77_0
  | 5 => fg_X11_77_4
  | n + 6 => fg_X11_77_6
abbrev rm_X11_refusalOfTwo : Room := { frames := 1, cells := 0, slots := 0, locals := 21 }
set_option maxRecDepth 20000 in
theorem c_X11_refusalOfTwo (G : v_G) (l : Launch) {K : Nat × v_TY} {I : Nat → Nat → Int32} {J : Nat → Nat → Int64} {R : Nat → Nat → Option Nat} (hL : Lay K R) {pp qq : Int32} {n : Nat} (hn : I 1 0 = nI n) (hn7 : n < 7) : v_M G l yX11_refusalOfTwo cX11_refusalOfTwo 3 (some .int) rm_X11_refusalOfTwo [.ref 0, .int pp, .int qq] (K, I, J, R) (v_Qi G (fun (x : Int32) (M' : v_MM) => x = s_rf n pp qq ∧ M' = (K, I, J, R))) := by
  refine v_of [some (.ref 0), some (.int pp), some (.int qq)] (by decide) (Nat.le_of_ble_eq_true rfl) (Nat.le_of_ble_eq_true rfl) rfl ?_
  refine v_aload_n (pc := 0) dX11_refusalOfTwo_0 rfl rfl ?_
  refine v_getH (pc := 1) fg_X11_12_11 dX11_refusalOfTwo_1 (li_0 hL) (lr_0_0 hL) ?_
  refine v_iload_n (pc := 4) dX11_refusalOfTwo_4 rfl rfl ?_
  refine v_ci (pc := 5) (v_rV (c_X9_hasPerson G l hL (Or.inl rfl) hn (by omega)) rfl kV_X11_201 (v_rcO (li_1 hL) rfl (by decide)) ⟨Nat.le_of_ble_eq_true rfl, Nat.le_of_ble_eq_true rfl⟩ ⟨Nat.le_of_ble_eq_true rfl, Nat.le_of_ble_eq_true rfl⟩ dX11_refusalOfTwo_5 (Nat.le_of_ble_eq_true rfl)) (fun x5 M5 h5 => ?_)
  obtain ⟨rfl, rfl⟩ := h5
  refine v_if_eqP (pc := 8) (tgt := 22) dX11_refusalOfTwo_8 (by decide) (fun c8 => ?_) (fun c8 => ?_)
  · have e1 := x_nat_n c8
    refine v_iconst (pc := 22) (v := -1) dX11_refusalOfTwo_22 (by decide) ?_
    exact v_iret (pc := 23) dX11_refusalOfTwo_23 rfl rfl (Nat.le_of_ble_eq_true rfl) (Nat.le_of_ble_eq_true rfl) ⟨by first | (simp only [s_rf, e1]; done) | (simp only [s_rf, e1, e2]; done) | (simp only [s_rf, e1, e2]; exact (if_pos c26).symm) | (simp only [s_rf, e1, e2]; exact (if_neg c26).symm), rfl⟩
  · obtain ⟨a, ha, rfl, e1⟩ := x_nat_i c8 (by omega)
    refine v_aload_n (pc := 11) dX11_refusalOfTwo_11 rfl rfl ?_
    refine v_getH (pc := 12) fg_X11_12_11 dX11_refusalOfTwo_12 (li_0 hL) (lr_0_0 hL) ?_
    refine v_iload_n (pc := 15) dX11_refusalOfTwo_15 rfl rfl ?_
    refine v_ci (pc := 16) (v_rV (c_X9_hasPerson G l hL (Or.inl rfl) hn (by omega)) rfl kV_X11_201 (v_rcO (li_1 hL) rfl (by decide)) ⟨Nat.le_of_ble_eq_true rfl, Nat.le_of_ble_eq_true rfl⟩ ⟨Nat.le_of_ble_eq_true rfl, Nat.le_of_ble_eq_true rfl⟩ dX11_refusalOfTwo_16 (Nat.le_of_ble_eq_true rfl)) (fun x16 M16 h16 => ?_)
    obtain ⟨rfl, rfl⟩ := h16
    refine v_if_neP (pc := 19) (tgt := 24) dX11_refusalOfTwo_19 (by decide) (fun c19 => ?_) (fun c19 => ?_)
    · obtain ⟨c, hc, rfl, e2⟩ := x_nat_i c19 (by omega)
      refine v_iload_n (pc := 24) dX11_refusalOfTwo_24 rfl rfl ?_
      refine v_iload_n (pc := 25) dX11_refusalOfTwo_25 rfl rfl ?_
      refine v_icmp_neN (pc := 26) (tgt := 34) ⟨by omega, by omega⟩ dX11_refusalOfTwo_26 (by decide) (fun c26 => ?_) (fun c26 => ?_)
      · refine v_iconst (pc := 34) (v := nI 0) dX11_refusalOfTwo_34 (by decide) ?_
        exact v_iret (pc := 35) dX11_refusalOfTwo_35 rfl rfl (Nat.le_of_ble_eq_true rfl) (Nat.le_of_ble_eq_true rfl) ⟨by first | (simp only [s_rf, e1]; done) | (simp only [s_rf, e1, e2]; done) | (simp only [s_rf, e1, e2]; exact (if_pos c26).symm) | (simp only [s_rf, e1, e2]; exact (if_neg c26).symm), rfl⟩
      · refine v_bipush (pc := 29) (v := -2) dX11_refusalOfTwo_29 (by decide) ?_
        refine v_goto (pc := 31) (tgt := 35) dX11_refusalOfTwo_31 (by decide) ?_
        exact v_iret (pc := 35) dX11_refusalOfTwo_35 rfl rfl (Nat.le_of_ble_eq_true rfl) (Nat.le_of_ble_eq_true rfl) ⟨by first | (simp only [s_rf, e1]; done) | (simp only [s_rf, e1, e2]; done) | (simp only [s_rf, e1, e2]; exact (if_pos c26).symm) | (simp only [s_rf, e1, e2]; exact (if_neg c26).symm), rfl⟩
    · have e2 := x_nat_n c19
      refine v_iconst (pc := 22) (v := -1) dX11_refusalOfTwo_22 (by decide) ?_
      exact v_iret (pc := 23) dX11_refusalOfTwo_23 rfl rfl (Nat.le_of_ble_eq_true rfl) (Nat.le_of_ble_eq_true rfl) ⟨by first | (simp only [s_rf, e1]; done) | (simp only [s_rf, e1, e2]; done) | (simp only [s_rf, e1, e2]; exact (if_pos c26).symm) | (simp only [s_rf, e1, e2]; exact (if_neg c26).symm), rfl⟩
abbrev rm_X11_pair : Room := { frames := 2, cells := 0, slots := 0, locals := 43 }
set_option maxRecDepth 20000 in
theorem c_X11_pair (G : v_G) (l : Launch) {K : Nat × v_TY} {I : Nat → Nat → Int32} {J : Nat → Nat → Int64} {R : Nat → Nat → Option Nat} (hL : Lay K R) {pp qq : Int32} {n : Nat} (hn : I 1 0 = nI n) (hn7 : n < 7) : v_M G l yX11_pair cX11_pair 5 (some .int) rm_X11_pair [.ref 0, .int pp, .int qq] (K, I, J, R) (v_Qi G (fun (x : Int32) (M' : v_MM) => x = s_pair n pp qq ∧ M' = (K, I, J, R))) := by
  refine v_of [some (.ref 0), some (.int pp), some (.int qq), none, none] (by decide) (Nat.le_of_ble_eq_true rfl) (Nat.le_of_ble_eq_true rfl) rfl ?_
  refine v_aload_n (pc := 0) dX11_pair_0 rfl rfl ?_
  refine v_iload_n (pc := 1) dX11_pair_1 rfl rfl ?_
  refine v_iload_n (pc := 2) dX11_pair_2 rfl rfl ?_
  refine v_ci (pc := 3) (v_rV (c_X11_refusalOfTwo G l hL hn hn7) rfl kV_X11_94 (v_rcO (li_0 hL) rfl (by decide)) ⟨Nat.le_of_ble_eq_true rfl, Nat.le_of_ble_eq_true rfl⟩ ⟨Nat.le_of_ble_eq_true rfl, Nat.le_of_ble_eq_true rfl⟩ dX11_pair_3 (Nat.le_of_ble_eq_true rfl)) (fun x3 M3 h3 => ?_)
  obtain ⟨rfl, rfl⟩ := h3
  rcases rf_cases (show n < 2 ^ 31 by omega) pp qq with ⟨er, e1⟩ | ⟨er, a, ha, e1, e2⟩ | ⟨er, a, c, ha, hc, hac, rfl, rfl, e1, e2⟩
  all_goals rw [er]
  · refine v_istore_n (pc := 6) dX11_pair_6 rfl (by decide) rfl ?_
    refine v_iload_n (pc := 7) dX11_pair_7 rfl rfl ?_
    refine v_if_eq (pc := 8) (tgt := 13) dX11_pair_8 (by decide) (fun c8 => ?_) (fun c8 => ?_)
    · exact absurd c8 (by decide)
    · refine v_iload_n (pc := 11) dX11_pair_11 rfl rfl ?_
      exact v_iret (pc := 12) dX11_pair_12 rfl rfl (Nat.le_of_ble_eq_true rfl) (Nat.le_of_ble_eq_true rfl) ⟨by rcases e1 with e1 | e1 <;> simp only [s_pair, e1]; (cases x_nat pp n <;> rfl), rfl⟩
  · refine v_istore_n (pc := 6) dX11_pair_6 rfl (by decide) rfl ?_
    refine v_iload_n (pc := 7) dX11_pair_7 rfl rfl ?_
    refine v_if_eq (pc := 8) (tgt := 13) dX11_pair_8 (by decide) (fun c8 => ?_) (fun c8 => ?_)
    · exact absurd c8 (by decide)
    · refine v_iload_n (pc := 11) dX11_pair_11 rfl rfl ?_
      exact v_iret (pc := 12) dX11_pair_12 rfl rfl (Nat.le_of_ble_eq_true rfl) (Nat.le_of_ble_eq_true rfl) ⟨by simp only [s_pair, e1, e2]; exact (if_pos trivial).symm, rfl⟩
  · refine v_istore_n (pc := 6) dX11_pair_6 rfl (by decide) rfl ?_
    refine v_iload_n (pc := 7) dX11_pair_7 rfl rfl ?_
    refine v_if_eq (pc := 8) (tgt := 13) dX11_pair_8 (by decide) (fun c8 => ?_) (fun c8 => ?_)
    · refine v_iload_n (pc := 13) dX11_pair_13 rfl rfl ?_
      refine v_iload_n (pc := 14) dX11_pair_14 rfl rfl ?_
      refine v_mmax (pc := 15) ⟨by omega, by omega⟩ wg_527 ⟨Nat.le_of_ble_eq_true rfl, Nat.le_of_ble_eq_true rfl⟩ ⟨Nat.le_of_ble_eq_true rfl, Nat.le_of_ble_eq_true rfl⟩ dX11_pair_15 ?_
      refine v_istore (pc := 18) dX11_pair_18 (by decide) rfl ?_
      refine v_iload (pc := 20) dX11_pair_20 rfl ?_
      refine v_iload (pc := 22) dX11_pair_22 rfl ?_
      refine v_iconst (pc := 24) (v := nI 1) dX11_pair_24 (by decide) ?_
      refine v_isubN (pc := 25) (by omega) dX11_pair_25 ?_
      refine v_imulN (pc := 26) dX11_pair_26 ?_
      refine v_iconst (pc := 27) (v := nI 2) dX11_pair_27 (by decide) ?_
      refine v_idivN (pc := 28) (Nat.lt_of_le_of_lt (Nat.mul_le_mul (show _ ≤ 7 by omega) (show _ ≤ 7 by omega)) (by decide)) (by decide) (by decide) dX11_pair_28 ?_
      refine v_iload_n (pc := 29) dX11_pair_29 rfl rfl ?_
      refine v_iload_n (pc := 30) dX11_pair_30 rfl rfl ?_
      refine v_mmin (pc := 31) ⟨by omega, by omega⟩ wg_530 ⟨Nat.le_of_ble_eq_true rfl, Nat.le_of_ble_eq_true rfl⟩ ⟨Nat.le_of_ble_eq_true rfl, Nat.le_of_ble_eq_true rfl⟩ dX11_pair_31 ?_
      refine v_iaddN (pc := 34) dX11_pair_34 ?_
      exact v_iret (pc := 35) dX11_pair_35 rfl rfl (Nat.le_of_ble_eq_true rfl) (Nat.le_of_ble_eq_true rfl) ⟨by simp only [s_pair, e1, e2]; rw [if_neg hac]; unfold w_po; rcases Nat.lt_or_ge a c with z | z; (rw [if_pos z, Nat.max_eq_right (by omega), Nat.min_eq_left (by omega)]); (rw [if_neg (by omega), Nat.max_eq_left (by omega), Nat.min_eq_right (by omega)]), rfl⟩
    · exact absurd rfl c8
abbrev rm_X11_of : Room := { frames := 12, cells := 0, slots := 0, locals := 592 }
set_option maxRecDepth 20000 in
theorem c_X11_of (G : v_G) (l : Launch) {K : Nat × v_TY} {I : Nat → Nat → Int32} {J : Nat → Nat → Int64} {R : Nat → Nat → Option Nat} (hL : Lay K R) {pp ww : Int32} {b : BS} {hm : Nat} {p : CLS} (hv : CV K I R 1 b hm p) (hf : HF b hm) {cm : Nat → Nat} (hcm : ∀ i, i < 6 → I 5 i = nI (cm i)) : v_M G l yX11_of cX11_of 4 (some .int) rm_X11_of [.ref 0, .int pp, .int ww] (K, I, J, R) (v_Qi G (fun (x : Int32) (M' : v_MM) => x = s_of b cm p pp ww ∧ ∃ I', M' = (K, I', J, R) ∧ cF 1 I I')) := by
  refine v_of [some (.ref 0), some (.int pp), some (.int ww), none] (by decide) (Nat.le_of_ble_eq_true rfl) (Nat.le_of_ble_eq_true rfl) rfl ?_
  have hB := hv.2.1
  have hn6 := hB.1
  have h15 := pr15 hn6
  have he := ve_now (p := p) hB hf
  have hpp : ∀ i, i < b_n b → ∃ a, R (1 + 1) i = some a := fun i hi => by obtain ⟨a, h1, -⟩ := hv.2.2.2.1 i hi; exact ⟨a, h1⟩
  refine v_aload_n (pc := 0) dX11_of_0 rfl rfl ?_
  refine v_getH (pc := 1) fg_X11_12_11 dX11_of_1 (li_0 hL) (lr_0_0 hL) ?_
  refine v_iload_n (pc := 4) dX11_of_4 rfl rfl ?_
  refine v_cr (pc := 5) (v_rV (c_X9_personAt G l hL (Or.inl rfl) hv.1.1 (by omega) hpp) rfl kV_X11_68 (v_rcO (li_1 hL) rfl (by decide)) ⟨Nat.le_of_ble_eq_true rfl, Nat.le_of_ble_eq_true rfl⟩ ⟨Nat.le_of_ble_eq_true rfl, Nat.le_of_ble_eq_true rfl⟩ dX11_of_5 (Nat.le_of_ble_eq_true rfl)) (fun x5 M5 h5 => ?_)
  rcases h5 with ⟨e1, rfl, rfl⟩ | ⟨i, a, hi, rfl, e1, ha, rfl, rfl⟩
  · refine v_astore_nN (pc := 8) dX11_of_8 rfl (by decide) rfl ?_
    refine v_aload_nN (pc := 9) dX11_of_9 rfl rfl ?_
    refine v_ifnonnull0 (pc := 10) dX11_of_10 ?_
    refine v_iconst (pc := 13) (v := -1) dX11_of_13 (by decide) ?_
    exact v_iret (pc := 14) dX11_of_14 rfl rfl (Nat.le_of_ble_eq_true rfl) (Nat.le_of_ble_eq_true rfl) ⟨by simp only [s_of, e1], I, rfl, cF_rf⟩
  · obtain ⟨a2, ha2, hps⟩ := hv.2.2.2.1 i hi
    have : a2 = a := Option.some.inj (ha2.symm.trans ha)
    subst this
    refine v_astore_n (pc := 8) dX11_of_8 rfl (by decide) rfl ?_
    refine v_aload_n (pc := 9) dX11_of_9 rfl rfl ?_
    refine v_ifnonnull (pc := 10) (tgt := 15) dX11_of_10 (by decide) ?_
    refine v_iload_n (pc := 15) dX11_of_15 rfl rfl ?_
    rcases x_sw5 ww with rfl | rfl | rfl | rfl | rfl | ⟨e2, e3⟩
    · have e2 : x_nat (nI 0) 5 = some 0 := rfl
      refine v_tableIn (pc := 16) (tgt := 52) dX11_of_16 (by decide) (by decide) rfl (by decide) ?_
      refine v_aload_n (pc := 52) dX11_of_52 rfl rfl ?_
      refine v_getV (pc := 53) (fg72 (b_k b i)) dX11_of_53 hps.2.1 hps.2.2.1 ?_
      exact v_iret (pc := 56) dX11_of_56 rfl rfl (Nat.le_of_ble_eq_true rfl) (Nat.le_of_ble_eq_true rfl) ⟨by simp only [s_of, e1, e2], by first | exact ⟨I, rfl, cF_rf⟩ | exact ⟨_, rfl, f76⟩⟩
    · have e2 : x_nat (nI 1) 5 = some 1 := rfl
      refine v_tableIn (pc := 16) (tgt := 57) dX11_of_16 (by decide) (by decide) rfl (by decide) ?_
      refine v_aload_n (pc := 57) dX11_of_57 rfl rfl ?_
      refine v_getV (pc := 58) (fg77 (b_k b i)) dX11_of_58 hps.2.1 hps.2.2.2.2 ?_
      exact v_iret (pc := 61) dX11_of_61 rfl rfl (Nat.le_of_ble_eq_true rfl) (Nat.le_of_ble_eq_true rfl) ⟨by simp only [s_of, e1, e2], by first | exact ⟨I, rfl, cF_rf⟩ | exact ⟨_, rfl, f76⟩⟩
    · have e2 : x_nat (nI 2) 5 = some 2 := rfl
      refine v_tableIn (pc := 16) (tgt := 62) dX11_of_16 (by decide) (by decide) rfl (by decide) ?_
      refine v_aload_n (pc := 62) dX11_of_62 rfl rfl ?_
      refine v_getH (pc := 63) fg_X11_12_11 dX11_of_63 (li_0 hL) (lr_0_0 hL) ?_
      refine v_getH (pc := 66) fg_X11_80_9 dX11_of_66 (li_1 hL) (lr_1_5 hL) ?_
      refine v_iload_n (pc := 69) dX11_of_69 rfl rfl ?_
      refine v_ialoadN (pc := 70) dX11_of_70 (li_3 hL) ⟨by omega, by omega⟩ (hv.1.2.2.2.1 i (by omega)) ?_
      exact v_iret (pc := 71) dX11_of_71 rfl rfl (Nat.le_of_ble_eq_true rfl) (Nat.le_of_ble_eq_true rfl) ⟨by simp only [s_of, e1, e2], by first | exact ⟨I, rfl, cF_rf⟩ | exact ⟨_, rfl, f76⟩⟩
    · have e2 : x_nat (nI 3) 5 = some 3 := rfl
      refine v_tableIn (pc := 16) (tgt := 72) dX11_of_16 (by decide) (by decide) rfl (by decide) ?_
      refine v_aload_n (pc := 72) dX11_of_72 rfl rfl ?_
      refine v_getH (pc := 73) fg_X11_12_11 dX11_of_73 (li_0 hL) (lr_0_0 hL) ?_
      refine v_ci (pc := 76) (v_rV (c_X9_amissBits G l hL (Or.inl rfl) hv) rfl kV_X11_83 (v_rcO (li_1 hL) rfl (by decide)) ⟨Nat.le_of_ble_eq_true rfl, Nat.le_of_ble_eq_true rfl⟩ ⟨Nat.le_of_ble_eq_true rfl, Nat.le_of_ble_eq_true rfl⟩ dX11_of_76 (Nat.le_of_ble_eq_true rfl)) (fun x76 M76 h76 => ?_)
      obtain ⟨rfl, I76, rfl, f76⟩ := h76
      refine v_iload_n (pc := 79) dX11_of_79 rfl rfl ?_
      refine v_ci (pc := 80) (v_rS (c_X11_complainsAmong G l ⟨w_set_15 (c_vw b hm p) h15, by omega⟩) rfl kS_X11_87 ⟨Nat.le_of_ble_eq_true rfl, Nat.le_of_ble_eq_true rfl⟩ ⟨Nat.le_of_ble_eq_true rfl, Nat.le_of_ble_eq_true rfl⟩ dX11_of_80 (Nat.le_of_ble_eq_true rfl)) (fun x80 M80 h80 => ?_)
      obtain ⟨rfl, rfl⟩ := h80
      have ecp : w_cp (c_vw b hm p) (w_pr (b_n b)) i = w_cp (vw b 9 p) (w_pr (b_n b)) i := ve_cp he i
      rw [w_cp_ca h15, ecp]
      exact v_iret (pc := 83) dX11_of_83 rfl rfl (Nat.le_of_ble_eq_true rfl) (Nat.le_of_ble_eq_true rfl) ⟨by simp only [s_of, e1, e2], by first | exact ⟨I, rfl, cF_rf⟩ | exact ⟨_, rfl, f76⟩⟩
    · have e2 : x_nat (nI 4) 5 = some 4 := rfl
      refine v_tableIn (pc := 16) (tgt := 84) dX11_of_16 (by decide) (by decide) rfl (by decide) ?_
      refine v_aload_n (pc := 84) dX11_of_84 rfl rfl ?_
      refine v_getH (pc := 85) fg_X11_12_11 dX11_of_85 (li_0 hL) (lr_0_0 hL) ?_
      refine v_getH (pc := 88) fg_X11_91_9 dX11_of_88 (li_1 hL) (lr_1_7 hL) ?_
      refine v_iload_n (pc := 91) dX11_of_91 rfl rfl ?_
      refine v_ialoadN (pc := 92) dX11_of_92 (li_5 hL) ⟨by omega, by omega⟩ (hcm i (by omega)) ?_
      exact v_iret (pc := 93) dX11_of_93 rfl rfl (Nat.le_of_ble_eq_true rfl) (Nat.le_of_ble_eq_true rfl) ⟨by simp only [s_of, e1, e2], by first | exact ⟨I, rfl, cF_rf⟩ | exact ⟨_, rfl, f76⟩⟩
    · refine v_tableOut (pc := 16) (tgt := 94) dX11_of_16 e3 (by decide) ?_
      refine v_iconst (pc := 94) (v := -1) dX11_of_94 (by decide) ?_
      exact v_iret (pc := 95) dX11_of_95 rfl rfl (Nat.le_of_ble_eq_true rfl) (Nat.le_of_ble_eq_true rfl) ⟨by simp only [s_of, e1, e2], by first | exact ⟨I, rfl, cF_rf⟩ | exact ⟨_, rfl, f76⟩⟩
abbrev rm_X11_at : Room := { frames := 10, cells := 0, slots := 0, locals := 549 }
set_option maxRecDepth 20000 in
theorem c_X11_at (G : v_G) (l : Launch) {K : Nat × v_TY} {I : Nat → Nat → Int32} {J : Nat → Nat → Int64} {R : Nat → Nat → Option Nat} (hL : Lay K R) {pp ww : Int32} {b : BS} {hm : Nat} {p : CLS} (hv : CV K I R 1 b hm p) (hf : HF b hm) : v_M G l yX11_at cX11_at 3 (some .int) rm_X11_at [.ref 0, .int pp, .int ww] (K, I, J, R) (v_Qi G (fun (x : Int32) (M' : v_MM) => x = s_at b p pp ww ∧ ∃ I', M' = (K, I', J, R) ∧ cF 1 I I')) := by
  refine v_of [some (.ref 0), some (.int pp), some (.int ww)] (by decide) (Nat.le_of_ble_eq_true rfl) (Nat.le_of_ble_eq_true rfl) rfl ?_
  have hB := hv.2.1
  have hn6 := hB.1
  have h15 := pr15 hn6
  have he := ve_now (p := p) hB hf
  refine v_aload_n (pc := 0) dX11_at_0 rfl rfl ?_
  refine v_getH (pc := 1) fg_X11_12_11 dX11_at_1 (li_0 hL) (lr_0_0 hL) ?_
  refine v_iload_n (pc := 4) dX11_at_4 rfl rfl ?_
  refine v_ci (pc := 5) (v_rV (c_X9_hasPair G l hL (Or.inl rfl) hv.1.1 (by omega)) rfl kV_X11_117 (v_rcO (li_1 hL) rfl (by decide)) ⟨Nat.le_of_ble_eq_true rfl, Nat.le_of_ble_eq_true rfl⟩ ⟨Nat.le_of_ble_eq_true rfl, Nat.le_of_ble_eq_true rfl⟩ dX11_at_5 (Nat.le_of_ble_eq_true rfl)) (fun x5 M5 h5 => ?_)
  obtain ⟨rfl, rfl⟩ := h5
  refine v_if_neP (pc := 8) (tgt := 13) dX11_at_8 (by decide) (fun c8 => ?_) (fun c8 => ?_)
  · obtain ⟨k, hk, rfl, e1⟩ := x_nat_i c8 (by omega)
    have hg := w_g_in k (by omega)
    have e9 := (show w_a (vw b 9 p) (w_l k) (w_g k) = (b_m b (w_l k)).testBit (w_g k) from (w_bit9 b p ⟨by omega, by omega⟩).symm)
    refine v_iload_n (pc := 13) dX11_at_13 rfl rfl ?_
    rcases x_sw6 ww with rfl | rfl | rfl | rfl | rfl | rfl | ⟨e2, e3⟩
    · have e2 : x_nat (nI 0) 6 = some 0 := rfl
      refine v_tableIn (pc := 14) (tgt := 52) dX11_at_14 (by decide) (by decide) rfl (by decide) ?_
      refine v_aload_n (pc := 52) dX11_at_52 rfl rfl ?_
      refine v_getH (pc := 53) fg_X11_12_11 dX11_at_53 (li_0 hL) (lr_0_0 hL) ?_
      refine v_iload_n (pc := 56) dX11_at_56 rfl rfl ?_
      refine v_ci (pc := 57) (v_rV (c_X9_areFriends G l hL (Or.inl rfl) hv.1.2.2.2.1 (by omega)) rfl kV_X11_121 (v_rcO (li_1 hL) rfl (by decide)) ⟨Nat.le_of_ble_eq_true rfl, Nat.le_of_ble_eq_true rfl⟩ ⟨Nat.le_of_ble_eq_true rfl, Nat.le_of_ble_eq_true rfl⟩ dX11_at_57 (Nat.le_of_ble_eq_true rfl)) (fun x57 M57 h57 => ?_)
      obtain ⟨rfl, rfl⟩ := h57
      refine v_ci (pc := 60) (v_rS (c_X11_asNumber G l (a := (b_m b (w_l k)).testBit (w_g k))) rfl kS_X11_101 ⟨Nat.le_of_ble_eq_true rfl, Nat.le_of_ble_eq_true rfl⟩ ⟨Nat.le_of_ble_eq_true rfl, Nat.le_of_ble_eq_true rfl⟩ dX11_at_60 (Nat.le_of_ble_eq_true rfl)) (fun x60 M60 h60 => ?_)
      obtain ⟨rfl, rfl⟩ := h60
      exact v_iret (pc := 63) dX11_at_63 rfl rfl (Nat.le_of_ble_eq_true rfl) (Nat.le_of_ble_eq_true rfl) ⟨by first | (simp only [s_at, e1]; done) | (simp only [s_at, e1, e2, e9]; done) | (simp only [s_at, e1, e2]; first | rw [ve_com he (by omega) (by omega)] | rw [ve_sum he 0 (by omega) (by omega)] | rw [ve_price he (by omega) (by omega)]), by first | exact ⟨I, rfl, cF_rf⟩ | exact ⟨_, rfl, fx78⟩ | exact ⟨_, rfl, fx87⟩⟩
    · have e2 : x_nat (nI 1) 6 = some 1 := rfl
      refine v_tableIn (pc := 14) (tgt := 64) dX11_at_14 (by decide) (by decide) rfl (by decide) ?_
      refine v_aload_n (pc := 64) dX11_at_64 rfl rfl ?_
      refine v_getH (pc := 65) fg_X11_12_11 dX11_at_65 (li_0 hL) (lr_0_0 hL) ?_
      refine v_iload_n (pc := 68) dX11_at_68 rfl rfl ?_
      refine v_ci (pc := 69) (v_rV (c_X9_commonOf G l hL (Or.inl rfl) hv (by omega)) rfl kV_X11_124 (v_rcO (li_1 hL) rfl (by decide)) ⟨Nat.le_of_ble_eq_true rfl, Nat.le_of_ble_eq_true rfl⟩ ⟨Nat.le_of_ble_eq_true rfl, Nat.le_of_ble_eq_true rfl⟩ dX11_at_69 (Nat.le_of_ble_eq_true rfl)) (fun x69 M69 h69 => ?_)
      obtain ⟨rfl, rfl⟩ := h69
      exact v_iret (pc := 72) dX11_at_72 rfl rfl (Nat.le_of_ble_eq_true rfl) (Nat.le_of_ble_eq_true rfl) ⟨by first | (simp only [s_at, e1]; done) | (simp only [s_at, e1, e2, e9]; done) | (simp only [s_at, e1, e2]; first | rw [ve_com he (by omega) (by omega)] | rw [ve_sum he 0 (by omega) (by omega)] | rw [ve_price he (by omega) (by omega)]), by first | exact ⟨I, rfl, cF_rf⟩ | exact ⟨_, rfl, fx78⟩ | exact ⟨_, rfl, fx87⟩⟩
    · have e2 : x_nat (nI 2) 6 = some 2 := rfl
      refine v_tableIn (pc := 14) (tgt := 73) dX11_at_14 (by decide) (by decide) rfl (by decide) ?_
      refine v_aload_n (pc := 73) dX11_at_73 rfl rfl ?_
      refine v_getH (pc := 74) fg_X11_12_11 dX11_at_74 (li_0 hL) (lr_0_0 hL) ?_
      refine v_iload_n (pc := 77) dX11_at_77 rfl rfl ?_
      refine v_ci (pc := 78) (v_rV (c_X9_wantedOf G l hL (Or.inl rfl) hv (by omega)) rfl kV_X11_128 (v_rcO (li_1 hL) rfl (by decide)) ⟨Nat.le_of_ble_eq_true rfl, Nat.le_of_ble_eq_true rfl⟩ ⟨Nat.le_of_ble_eq_true rfl, Nat.le_of_ble_eq_true rfl⟩ dX11_at_78 (Nat.le_of_ble_eq_true rfl)) (fun x78 M78 h78 => ?_)
      obtain ⟨rfl, Ix78, rfl, fx78⟩ := h78
      exact v_iret (pc := 81) dX11_at_81 rfl rfl (Nat.le_of_ble_eq_true rfl) (Nat.le_of_ble_eq_true rfl) ⟨by first | (simp only [s_at, e1]; done) | (simp only [s_at, e1, e2, e9]; done) | (simp only [s_at, e1, e2]; first | rw [ve_com he (by omega) (by omega)] | rw [ve_sum he 0 (by omega) (by omega)] | rw [ve_price he (by omega) (by omega)]), by first | exact ⟨I, rfl, cF_rf⟩ | exact ⟨_, rfl, fx78⟩ | exact ⟨_, rfl, fx87⟩⟩
    · have e2 : x_nat (nI 3) 6 = some 3 := rfl
      refine v_tableIn (pc := 14) (tgt := 82) dX11_at_14 (by decide) (by decide) rfl (by decide) ?_
      refine v_aload_n (pc := 82) dX11_at_82 rfl rfl ?_
      refine v_getH (pc := 83) fg_X11_12_11 dX11_at_83 (li_0 hL) (lr_0_0 hL) ?_
      refine v_iload_n (pc := 86) dX11_at_86 rfl rfl ?_
      refine v_ci (pc := 87) (v_rV (c_X9_priceOf G l hL (Or.inl rfl) hv (by omega)) rfl kV_X11_131 (v_rcO (li_1 hL) rfl (by decide)) ⟨Nat.le_of_ble_eq_true rfl, Nat.le_of_ble_eq_true rfl⟩ ⟨Nat.le_of_ble_eq_true rfl, Nat.le_of_ble_eq_true rfl⟩ dX11_at_87 (Nat.le_of_ble_eq_true rfl)) (fun x87 M87 h87 => ?_)
      obtain ⟨rfl, Ix87, rfl, fx87⟩ := h87
      exact v_iret (pc := 90) dX11_at_90 rfl rfl (Nat.le_of_ble_eq_true rfl) (Nat.le_of_ble_eq_true rfl) ⟨by first | (simp only [s_at, e1]; done) | (simp only [s_at, e1, e2, e9]; done) | (simp only [s_at, e1, e2]; first | rw [ve_com he (by omega) (by omega)] | rw [ve_sum he 0 (by omega) (by omega)] | rw [ve_price he (by omega) (by omega)]), by first | exact ⟨I, rfl, cF_rf⟩ | exact ⟨_, rfl, fx78⟩ | exact ⟨_, rfl, fx87⟩⟩
    · have e2 : x_nat (nI 4) 6 = some 4 := rfl
      refine v_tableIn (pc := 14) (tgt := 91) dX11_at_14 (by decide) (by decide) rfl (by decide) ?_
      refine v_gets (pc := 91) (i := 0) (nm := "LESSER") (by decide) (Or.inl gs_X11_134) dX11_at_91 ?_
      refine v_iload_n (pc := 94) dX11_at_94 rfl rfl ?_
      refine v_stN0 (pc := 95) dX11_at_95 (by omega) ?_
      exact v_iret (pc := 96) dX11_at_96 rfl rfl (Nat.le_of_ble_eq_true rfl) (Nat.le_of_ble_eq_true rfl) ⟨by first | (simp only [s_at, e1]; done) | (simp only [s_at, e1, e2, e9]; done) | (simp only [s_at, e1, e2]; first | rw [ve_com he (by omega) (by omega)] | rw [ve_sum he 0 (by omega) (by omega)] | rw [ve_price he (by omega) (by omega)]), by first | exact ⟨I, rfl, cF_rf⟩ | exact ⟨_, rfl, fx78⟩ | exact ⟨_, rfl, fx87⟩⟩
    · have e2 : x_nat (nI 5) 6 = some 5 := rfl
      refine v_tableIn (pc := 14) (tgt := 97) dX11_at_14 (by decide) (by decide) rfl (by decide) ?_
      refine v_gets (pc := 97) (i := 1) (nm := "GREATER") (by decide) (Or.inl gs_X11_137) dX11_at_97 ?_
      refine v_iload_n (pc := 100) dX11_at_100 rfl rfl ?_
      refine v_stN1 (pc := 101) dX11_at_101 (by omega) ?_
      exact v_iret (pc := 102) dX11_at_102 rfl rfl (Nat.le_of_ble_eq_true rfl) (Nat.le_of_ble_eq_true rfl) ⟨by first | (simp only [s_at, e1]; done) | (simp only [s_at, e1, e2, e9]; done) | (simp only [s_at, e1, e2]; first | rw [ve_com he (by omega) (by omega)] | rw [ve_sum he 0 (by omega) (by omega)] | rw [ve_price he (by omega) (by omega)]), by first | exact ⟨I, rfl, cF_rf⟩ | exact ⟨_, rfl, fx78⟩ | exact ⟨_, rfl, fx87⟩⟩
    · refine v_tableOut (pc := 14) (tgt := 103) dX11_at_14 e3 (by decide) ?_
      refine v_iconst (pc := 103) (v := -1) dX11_at_103 (by decide) ?_
      exact v_iret (pc := 104) dX11_at_104 rfl rfl (Nat.le_of_ble_eq_true rfl) (Nat.le_of_ble_eq_true rfl) ⟨by first | (simp only [s_at, e1]; done) | (simp only [s_at, e1, e2, e9]; done) | (simp only [s_at, e1, e2]; first | rw [ve_com he (by omega) (by omega)] | rw [ve_sum he 0 (by omega) (by omega)] | rw [ve_price he (by omega) (by omega)]), by first | exact ⟨I, rfl, cF_rf⟩ | exact ⟨_, rfl, fx78⟩ | exact ⟨_, rfl, fx87⟩⟩
  · have e1 := x_nat_n c8
    refine v_iconst (pc := 11) (v := -1) dX11_at_11 (by decide) ?_
    exact v_iret (pc := 12) dX11_at_12 rfl rfl (Nat.le_of_ble_eq_true rfl) (Nat.le_of_ble_eq_true rfl) ⟨by first | (simp only [s_at, e1]; done) | (simp only [s_at, e1, e2, e9]; done) | (simp only [s_at, e1, e2]; first | rw [ve_com he (by omega) (by omega)] | rw [ve_sum he 0 (by omega) (by omega)] | rw [ve_price he (by omega) (by omega)]), by first | exact ⟨I, rfl, cF_rf⟩ | exact ⟨_, rfl, fx78⟩ | exact ⟨_, rfl, fx87⟩⟩
abbrev rm_X11_told : Room := { frames := 4, cells := 0, slots := 0, locals := 86 }
set_option maxRecDepth 20000 in
theorem c_X11_told (G : v_G) (l : Launch) {K : Nat × v_TY} {I : Nat → Nat → Int32} {J : Nat → Nat → Int64} {R : Nat → Nat → Option Nat} (hL : Lay K R) {ww : Int32} {b : BS} {hm : Nat} {p : CLS} (hv : CV K I R 1 b hm p) (hf : HF b hm) : v_M G l yX11_told cX11_told 2 (some .int) rm_X11_told [.ref 0, .int ww] (K, I, J, R) (v_Qi G (fun (x : Int32) (M' : v_MM) => x = s_told b ww ∧ M' = (K, I, J, R))) := by
  refine v_of [some (.ref 0), some (.int ww)] (by decide) (Nat.le_of_ble_eq_true rfl) (Nat.le_of_ble_eq_true rfl) rfl ?_
  have hB := hv.2.1
  have hn6 := hB.1
  have h15 := pr15 hn6
  have he := ve_now (p := p) hB hf
  refine v_iload_n (pc := 0) dX11_told_0 rfl rfl ?_
  rcases x_sw3 ww with rfl | rfl | rfl | ⟨e2, e3⟩
  · have e2 : x_nat (nI 0) 3 = some 0 := rfl
    refine v_tableIn (pc := 1) (tgt := 28) dX11_told_1 (by decide) (by decide) rfl (by decide) ?_
    refine v_aload_n (pc := 28) dX11_told_28 rfl rfl ?_
    refine v_getH (pc := 29) fg_X11_12_11 dX11_told_29 (li_0 hL) (lr_0_0 hL) ?_
    refine v_getV (pc := 32) fg_X11_159_9 dX11_told_32 (li_1 hL) hv.1.2.2.1 ?_
    exact v_iret (pc := 35) dX11_told_35 rfl rfl (Nat.le_of_ble_eq_true rfl) (Nat.le_of_ble_eq_true rfl) ⟨by first | (simp only [s_told, e2]; done) | (simp only [s_told, e2]; rw [c_frs hB]), rfl⟩
  · have e2 : x_nat (nI 1) 3 = some 1 := rfl
    refine v_tableIn (pc := 1) (tgt := 36) dX11_told_1 (by decide) (by decide) rfl (by decide) ?_
    refine v_aload_n (pc := 36) dX11_told_36 rfl rfl ?_
    refine v_getH (pc := 37) fg_X11_12_11 dX11_told_37 (li_0 hL) (lr_0_0 hL) ?_
    refine v_ci (pc := 40) (v_rV (c_X9_pairCount G l hL (Or.inl rfl) hv.1.1 (by omega)) rfl kV_X11_162 (v_rcO (li_1 hL) rfl (by decide)) ⟨Nat.le_of_ble_eq_true rfl, Nat.le_of_ble_eq_true rfl⟩ ⟨Nat.le_of_ble_eq_true rfl, Nat.le_of_ble_eq_true rfl⟩ dX11_told_40 (Nat.le_of_ble_eq_true rfl)) (fun x40 M40 h40 => ?_)
    obtain ⟨rfl, rfl⟩ := h40
    exact v_iret (pc := 43) dX11_told_43 rfl rfl (Nat.le_of_ble_eq_true rfl) (Nat.le_of_ble_eq_true rfl) ⟨by first | (simp only [s_told, e2]; done) | (simp only [s_told, e2]; rw [c_frs hB]), rfl⟩
  · have e2 : x_nat (nI 2) 3 = some 2 := rfl
    refine v_tableIn (pc := 1) (tgt := 44) dX11_told_1 (by decide) (by decide) rfl (by decide) ?_
    refine v_aload_n (pc := 44) dX11_told_44 rfl rfl ?_
    refine v_getH (pc := 45) fg_X11_12_11 dX11_told_45 (li_0 hL) (lr_0_0 hL) ?_
    refine v_ci (pc := 48) (v_rV (c_X9_friendships G l hL (Or.inl rfl) hv.1 hB) rfl kV_X11_165 (v_rcO (li_1 hL) rfl (by decide)) ⟨Nat.le_of_ble_eq_true rfl, Nat.le_of_ble_eq_true rfl⟩ ⟨Nat.le_of_ble_eq_true rfl, Nat.le_of_ble_eq_true rfl⟩ dX11_told_48 (Nat.le_of_ble_eq_true rfl)) (fun x48 M48 h48 => ?_)
    obtain ⟨rfl, rfl⟩ := h48
    exact v_iret (pc := 51) dX11_told_51 rfl rfl (Nat.le_of_ble_eq_true rfl) (Nat.le_of_ble_eq_true rfl) ⟨by first | (simp only [s_told, e2]; done) | (simp only [s_told, e2]; rw [c_frs hB]), rfl⟩
  · refine v_tableOut (pc := 1) (tgt := 52) dX11_told_1 e3 (by decide) ?_
    refine v_iconst (pc := 52) (v := -1) dX11_told_52 (by decide) ?_
    exact v_iret (pc := 53) dX11_told_53 rfl rfl (Nat.le_of_ble_eq_true rfl) (Nat.le_of_ble_eq_true rfl) ⟨by first | (simp only [s_told, e2]; done) | (simp only [s_told, e2]; rw [c_frs hB]), rfl⟩
abbrev rm_X11_amiss : Room := { frames := 13, cells := 0, slots := 0, locals := 612 }
set_option maxRecDepth 20000 in
theorem c_X11_amiss (G : v_G) (l : Launch) {K : Nat × v_TY} {I : Nat → Nat → Int32} {J : Nat → Nat → Int64} {R : Nat → Nat → Option Nat} (hL : Lay K R) {ww : Int32} {b : BS} {hm : Nat} {p : CLS} (hv : CV K I R 1 b hm p) (hf : HF b hm) : v_M G l yX11_amiss cX11_amiss 2 (some .int) rm_X11_amiss [.ref 0, .int ww] (K, I, J, R) (v_Qi G (fun (x : Int32) (M' : v_MM) => x = s_amiss b p ww ∧ ∃ I', M' = (K, I', J, R) ∧ cF 1 I I')) := by
  refine v_of [some (.ref 0), some (.int ww)] (by decide) (Nat.le_of_ble_eq_true rfl) (Nat.le_of_ble_eq_true rfl) rfl ?_
  have hB := hv.2.1
  have hn6 := hB.1
  have h15 := pr15 hn6
  have he := ve_now (p := p) hB hf
  have es : w_set (c_vw b hm p) (w_pr (b_n b)) = w_set (vw b 9 p) (w_pr (b_n b)) := ve_set he _ (Nat.le_refl _)
  have eo : w_os (c_vw b hm p) (w_pr (b_n b)) = w_os (vw b 9 p) (w_pr (b_n b)) := ve_os he
  have em := ve_many he
  refine v_iload_n (pc := 0) dX11_amiss_0 rfl rfl ?_
  rcases x_sw3 ww with rfl | rfl | rfl | ⟨e2, e3⟩
  · have e2 : x_nat (nI 0) 3 = some 0 := rfl
    refine v_tableIn (pc := 1) (tgt := 28) dX11_amiss_1 (by decide) (by decide) rfl (by decide) ?_
    refine v_aload_n (pc := 28) dX11_amiss_28 rfl rfl ?_
    refine v_getH (pc := 29) fg_X11_12_11 dX11_amiss_29 (li_0 hL) (lr_0_0 hL) ?_
    refine v_ci (pc := 32) (v_rV (c_X9_amissBits G l hL (Or.inl rfl) hv) rfl kV_X11_83 (v_rcO (li_1 hL) rfl (by decide)) ⟨Nat.le_of_ble_eq_true rfl, Nat.le_of_ble_eq_true rfl⟩ ⟨Nat.le_of_ble_eq_true rfl, Nat.le_of_ble_eq_true rfl⟩ dX11_amiss_32 (Nat.le_of_ble_eq_true rfl)) (fun x32 M32 h32 => ?_)
    obtain ⟨rfl, Ix32, rfl, fx32⟩ := h32
    exact v_iret (pc := 35) dX11_amiss_35 rfl rfl (Nat.le_of_ble_eq_true rfl) (Nat.le_of_ble_eq_true rfl) ⟨by simp only [s_amiss, e2, es, eo, em], by first | exact ⟨I, rfl, cF_rf⟩ | exact ⟨_, rfl, fx32⟩ | exact ⟨_, rfl, fx40⟩ | exact ⟨_, rfl, fx48⟩⟩
  · have e2 : x_nat (nI 1) 3 = some 1 := rfl
    refine v_tableIn (pc := 1) (tgt := 36) dX11_amiss_1 (by decide) (by decide) rfl (by decide) ?_
    refine v_aload_n (pc := 36) dX11_amiss_36 rfl rfl ?_
    refine v_getH (pc := 37) fg_X11_12_11 dX11_amiss_37 (li_0 hL) (lr_0_0 hL) ?_
    refine v_ci (pc := 40) (v_rV (c_X9_howManyAmiss G l hL (Or.inl rfl) hv) rfl kV_X11_168 (v_rcO (li_1 hL) rfl (by decide)) ⟨Nat.le_of_ble_eq_true rfl, Nat.le_of_ble_eq_true rfl⟩ ⟨Nat.le_of_ble_eq_true rfl, Nat.le_of_ble_eq_true rfl⟩ dX11_amiss_40 (Nat.le_of_ble_eq_true rfl)) (fun x40 M40 h40 => ?_)
    obtain ⟨rfl, Ix40, rfl, fx40⟩ := h40
    exact v_iret (pc := 43) dX11_amiss_43 rfl rfl (Nat.le_of_ble_eq_true rfl) (Nat.le_of_ble_eq_true rfl) ⟨by simp only [s_amiss, e2, es, eo, em], by first | exact ⟨I, rfl, cF_rf⟩ | exact ⟨_, rfl, fx32⟩ | exact ⟨_, rfl, fx40⟩ | exact ⟨_, rfl, fx48⟩⟩
  · have e2 : x_nat (nI 2) 3 = some 2 := rfl
    refine v_tableIn (pc := 1) (tgt := 44) dX11_amiss_1 (by decide) (by decide) rfl (by decide) ?_
    refine v_aload_n (pc := 44) dX11_amiss_44 rfl rfl ?_
    refine v_getH (pc := 45) fg_X11_12_11 dX11_amiss_45 (li_0 hL) (lr_0_0 hL) ?_
    refine v_ci (pc := 48) (v_rV (c_X9_amissTogether G l hL (Or.inl rfl) hv) rfl kV_X11_171 (v_rcO (li_1 hL) rfl (by decide)) ⟨Nat.le_of_ble_eq_true rfl, Nat.le_of_ble_eq_true rfl⟩ ⟨Nat.le_of_ble_eq_true rfl, Nat.le_of_ble_eq_true rfl⟩ dX11_amiss_48 (Nat.le_of_ble_eq_true rfl)) (fun x48 M48 h48 => ?_)
    obtain ⟨rfl, Ix48, rfl, fx48⟩ := h48
    exact v_iret (pc := 51) dX11_amiss_51 rfl rfl (Nat.le_of_ble_eq_true rfl) (Nat.le_of_ble_eq_true rfl) ⟨by simp only [s_amiss, e2, es, eo, em], by first | exact ⟨I, rfl, cF_rf⟩ | exact ⟨_, rfl, fx32⟩ | exact ⟨_, rfl, fx40⟩ | exact ⟨_, rfl, fx48⟩⟩
  · refine v_tableOut (pc := 1) (tgt := 52) dX11_amiss_1 e3 (by decide) ?_
    refine v_iconst (pc := 52) (v := -1) dX11_amiss_52 (by decide) ?_
    exact v_iret (pc := 53) dX11_amiss_53 rfl rfl (Nat.le_of_ble_eq_true rfl) (Nat.le_of_ble_eq_true rfl) ⟨by simp only [s_amiss, e2, es, eo, em], by first | exact ⟨I, rfl, cF_rf⟩ | exact ⟨_, rfl, fx32⟩ | exact ⟨_, rfl, fx40⟩ | exact ⟨_, rfl, fx48⟩⟩
abbrev rm_X11_alls : Room := { frames := 1, cells := 0, slots := 0, locals := 22 }
set_option maxRecDepth 20000 in
theorem c_X11_alls (G : v_G) (l : Launch) {K : Nat × v_TY} {I : Nat → Nat → Int32} {J : Nat → Nat → Int64} {R : Nat → Nat → Option Nat} (hL : Lay K R) {b : BS} {hm : Nat} {p : CLS} (hv : CV K I R 1 b hm p) (hf : HF b hm) : v_M G l yX11_alls cX11_alls 3 (some .int) rm_X11_alls [.ref 0] (K, I, J, R) (v_Qi G (fun (x : Int32) (M' : v_MM) => x = nI (w_alls (vw b 9 p) (b_n b)) ∧ M' = (K, I, J, R))) := by
  refine v_of [some (.ref 0), none, none] (by decide) (Nat.le_of_ble_eq_true rfl) (Nat.le_of_ble_eq_true rfl) rfl ?_
  have hB := hv.2.1
  have hn6 := hB.1
  have h15 := pr15 hn6
  have he := ve_now (p := p) hB hf
  refine v_iconst (pc := 0) (v := nI 0) dX11_alls_0 (by decide) ?_
  refine v_istore_n (pc := 1) dX11_alls_1 rfl (by decide) rfl ?_
  refine v_iconst (pc := 2) (v := nI 0) dX11_alls_2 (by decide) ?_
  refine v_istore_n (pc := 3) dX11_alls_3 rfl (by decide) rfl ?_
  have key : ∀ i, i ≤ b_n b → v_V G l yX11_alls cX11_alls 3 (some .int) rm_X11_alls (v_Qi G (fun (x : Int32) (M' : v_MM) => x = nI (w_alls (vw b 9 p) (b_n b)) ∧ M' = (K, I, J, R))) 0 0 4 [some (.ref 0), some (.int (nI (w_alls (vw b 9 p) i))), some (.int (nI i))] [] (K, I, J, R) := by
    refine v_down (b_n b) (fun i hi ih => ?_)
    refine v_iload_n (pc := 4) dX11_alls_4 rfl rfl ?_
    refine v_aload_n (pc := 5) dX11_alls_5 rfl rfl ?_
    refine v_getH (pc := 6) fg_X11_12_11 dX11_alls_6 (li_0 hL) (lr_0_0 hL) ?_
    refine v_getV (pc := 9) fg_X11_56_9 dX11_alls_9 (li_1 hL) hv.1.1 ?_
    refine v_icmp_geN (pc := 12) (tgt := 38) ⟨by omega, by omega⟩ dX11_alls_12 (by decide) (fun c12 => ?_) (fun c12 => ?_)
    · refine v_iload_n (pc := 38) dX11_alls_38 rfl rfl ?_
      exact v_iret (pc := 39) dX11_alls_39 rfl rfl (Nat.le_of_ble_eq_true rfl) (Nat.le_of_ble_eq_true rfl) ⟨by rw [show b_n b = i by omega], rfl⟩
    · have goon := ih (i + 1) (by omega) (by omega)
      have eg : w_alls (vw b 9 p) (i + 1) = if w_all (vw b 9 p) i = true then w_alls (vw b 9 p) i ||| 2 ^ i else w_alls (vw b 9 p) i := rfl
      rw [eg, ← ve_all he (by omega)] at goon
      refine v_aload_n (pc := 15) dX11_alls_15 rfl rfl ?_
      refine v_getH (pc := 16) fg_X11_12_11 dX11_alls_16 (li_0 hL) (lr_0_0 hL) ?_
      refine v_iload_n (pc := 19) dX11_alls_19 rfl rfl ?_
      refine v_ci (pc := 20) (v_rV (c_X9_isEverybodys G l hL (Or.inl rfl) hv.1 hB hv.2.2.1 p (by omega)) rfl kV_X11_174 (v_rcO (li_1 hL) rfl (by decide)) ⟨Nat.le_of_ble_eq_true rfl, Nat.le_of_ble_eq_true rfl⟩ ⟨Nat.le_of_ble_eq_true rfl, Nat.le_of_ble_eq_true rfl⟩ dX11_alls_20 (Nat.le_of_ble_eq_true rfl)) (fun x20 M20 h20 => ?_)
      obtain ⟨rfl, rfl⟩ := h20
      refine v_if_eqP (pc := 23) (tgt := 32) dX11_alls_23 (by decide) (fun c23 => ?_) (fun c23 => ?_)
      · refine v_iincN (pc := 32) (b := 1) dX11_alls_32 rfl (by decide) (by decide) rfl ?_
        refine v_goto (pc := 35) (tgt := 4) dX11_alls_35 (by decide) ?_
        first
          | (rw [if_pos c23] at goon; exact goon)
          | (rw [if_neg c23] at goon; exact goon)
      · refine v_iload_n (pc := 26) dX11_alls_26 rfl rfl ?_
        refine v_iconst (pc := 27) (v := nI 1) dX11_alls_27 (by decide) ?_
        refine v_iload_n (pc := 28) dX11_alls_28 rfl rfl ?_
        refine v_ishl (pc := 29) dX11_alls_29 ?_
        refine v_top (v_shl1 _ (by omega)) ?_
        refine v_ior (pc := 30) dX11_alls_30 ?_
        refine v_top (nx_or _ _) ?_
        refine v_istore_n (pc := 31) dX11_alls_31 rfl (by decide) rfl ?_
        refine v_iincN (pc := 32) (b := 1) dX11_alls_32 rfl (by decide) (by decide) rfl ?_
        refine v_goto (pc := 35) (tgt := 4) dX11_alls_35 (by decide) ?_
        first
          | (rw [if_pos c23] at goon; exact goon)
          | (rw [if_neg c23] at goon; exact goon)
  exact key 0 (Nat.zero_le _)
abbrev rm_X11_far : Room := { frames := 2, cells := 0, slots := 0, locals := 44 }
set_option maxRecDepth 20000 in
theorem c_X11_far (G : v_G) (l : Launch) {K : Nat × v_TY} {I : Nat → Nat → Int32} {J : Nat → Nat → Int64} {R : Nat → Nat → Option Nat} (hL : Lay K R) {pp qq : Int32} {b : BS} {hm : Nat} (hC : CB0 I 1 b hm) (hB : VB b) : v_M G l yX11_far cX11_far 5 (some .int) rm_X11_far [.ref 0, .int pp, .int qq] (K, I, J, R) (v_Qi G (fun (x : Int32) (M' : v_MM) => x = s_far (b_m b) (b_n b) pp qq ∧ M' = (K, I, J, R))) := by
  refine v_of [some (.ref 0), some (.int pp), some (.int qq), none, none] (by decide) (Nat.le_of_ble_eq_true rfl) (Nat.le_of_ble_eq_true rfl) rfl ?_
  have hn6 := hB.1
  refine v_aload_n (pc := 0) dX11_far_0 rfl rfl ?_
  refine v_getH (pc := 1) fg_X11_12_11 dX11_far_1 (li_0 hL) (lr_0_0 hL) ?_
  refine v_iload_n (pc := 4) dX11_far_4 rfl rfl ?_
  refine v_ci (pc := 5) (v_rV (c_X9_hasPerson G l hL (Or.inl rfl) hC.1 (by omega)) rfl kV_X11_201 (v_rcO (li_1 hL) rfl (by decide)) ⟨Nat.le_of_ble_eq_true rfl, Nat.le_of_ble_eq_true rfl⟩ ⟨Nat.le_of_ble_eq_true rfl, Nat.le_of_ble_eq_true rfl⟩ dX11_far_5 (Nat.le_of_ble_eq_true rfl)) (fun x5 M5 h5 => ?_)
  obtain ⟨rfl, rfl⟩ := h5
  refine v_if_eqP (pc := 8) (tgt := 22) dX11_far_8 (by decide) (fun c8 => ?_) (fun c8 => ?_)
  · have e1 := x_nat_n c8
    refine v_iconst (pc := 22) (v := -1) dX11_far_22 (by decide) ?_
    exact v_iret (pc := 23) dX11_far_23 rfl rfl (Nat.le_of_ble_eq_true rfl) (Nat.le_of_ble_eq_true rfl) ⟨by first | (simp only [s_far, e1]; done) | (simp only [s_far, e1, e2]; done), rfl⟩
  · obtain ⟨a, ha, rfl, e1⟩ := x_nat_i c8 (by omega)
    refine v_aload_n (pc := 11) dX11_far_11 rfl rfl ?_
    refine v_getH (pc := 12) fg_X11_12_11 dX11_far_12 (li_0 hL) (lr_0_0 hL) ?_
    refine v_iload_n (pc := 15) dX11_far_15 rfl rfl ?_
    refine v_ci (pc := 16) (v_rV (c_X9_hasPerson G l hL (Or.inl rfl) hC.1 (by omega)) rfl kV_X11_201 (v_rcO (li_1 hL) rfl (by decide)) ⟨Nat.le_of_ble_eq_true rfl, Nat.le_of_ble_eq_true rfl⟩ ⟨Nat.le_of_ble_eq_true rfl, Nat.le_of_ble_eq_true rfl⟩ dX11_far_16 (Nat.le_of_ble_eq_true rfl)) (fun x16 M16 h16 => ?_)
    obtain ⟨rfl, rfl⟩ := h16
    refine v_if_neP (pc := 19) (tgt := 24) dX11_far_19 (by decide) (fun c19 => ?_) (fun c19 => ?_)
    · obtain ⟨c, hc, rfl, e2⟩ := x_nat_i c19 (by omega)
      refine v_iconst (pc := 24) (v := nI 1) dX11_far_24 (by decide) ?_
      refine v_iload_n (pc := 25) dX11_far_25 rfl rfl ?_
      refine v_ishl (pc := 26) dX11_far_26 ?_
      refine v_top (v_shl1 _ (by omega)) ?_
      refine v_istore_n (pc := 27) dX11_far_27 rfl (by decide) rfl ?_
      refine v_iconst (pc := 28) (v := nI 0) dX11_far_28 (by decide) ?_
      refine v_istore (pc := 29) dX11_far_29 (by decide) rfl ?_
      have h64 : 2 ^ a < 64 := by have := Nat.pow_lt_pow_right (a := 2) (by decide) (show a < 6 by omega); exact this
      have key : ∀ i, i ≤ 6 → w_ff (w_fr (b_m b) (b_n b) (2 ^ a) c) i = none → v_V G l yX11_far cX11_far 5 (some .int) rm_X11_far (v_Qi G (fun (x : Int32) (M' : v_MM) => x = s_far (b_m b) (b_n b) (nI a) (nI c) ∧ M' = (K, I, J, R))) 0 0 31 [some (.ref 0), some (.int (nI a)), some (.int (nI c)), some (.int (nI (w_gs (b_m b) (b_n b) (2 ^ a) i))), some (.int (nI i))] [] (K, I, J, R) := by
        refine v_down 6 (fun i hi ih => ?_)
        intro hno
        have hgl := w_gs_lt (n := b_n b) (fun i => hB.2.2.2.2.1 i) h64 i
        refine v_iload (pc := 31) dX11_far_31 rfl ?_
        refine v_bipush (pc := 33) (v := nI 6) dX11_far_33 (by decide) ?_
        refine v_icmp_geN (pc := 35) (tgt := 64) ⟨by omega, by omega⟩ dX11_far_35 (by decide) (fun c35 => ?_) (fun c35 => ?_)
        · refine v_bipush (pc := 64) (v := -5) dX11_far_64 (by decide) ?_
          exact v_iret (pc := 66) dX11_far_66 rfl rfl (Nat.le_of_ble_eq_true rfl) (Nat.le_of_ble_eq_true rfl) ⟨by simp only [s_far, e1, e2]; first | (rw [w_ff_s hno ef (by omega)]; rfl) | (rw [fr_6 (fun i => hB.2.2.2.2.1 i) (by omega), show 6 = i by omega, hno]; rfl), rfl⟩
        · refine v_iload_n (pc := 38) dX11_far_38 rfl rfl ?_
          refine v_iload_n (pc := 39) dX11_far_39 rfl rfl ?_
          refine v_ci (pc := 40) (v_rS (c_X11_hasBit G l (by omega)) rfl kS_X11_198 ⟨Nat.le_of_ble_eq_true rfl, Nat.le_of_ble_eq_true rfl⟩ ⟨Nat.le_of_ble_eq_true rfl, Nat.le_of_ble_eq_true rfl⟩ dX11_far_40 (Nat.le_of_ble_eq_true rfl)) (fun x40 M40 h40 => ?_)
          obtain ⟨rfl, rfl⟩ := h40
          refine v_if_eqP (pc := 43) (tgt := 49) dX11_far_43 (by decide) (fun c43 => ?_) (fun c43 => ?_)
          · rw [w_bt (by omega)] at c43
            have ef : w_fr (b_m b) (b_n b) (2 ^ a) c i = none := if_neg c43
            refine v_aload_n (pc := 49) dX11_far_49 rfl rfl ?_
            refine v_getH (pc := 50) fg_X11_12_11 dX11_far_50 (li_0 hL) (lr_0_0 hL) ?_
            refine v_iload_n (pc := 53) dX11_far_53 rfl rfl ?_
            refine v_ci (pc := 54) (v_rV (c_X9_withFriends G l hL (Or.inl rfl) hC hB hgl) rfl kV_X11_208 (v_rcO (li_1 hL) rfl (by decide)) ⟨Nat.le_of_ble_eq_true rfl, Nat.le_of_ble_eq_true rfl⟩ ⟨Nat.le_of_ble_eq_true rfl, Nat.le_of_ble_eq_true rfl⟩ dX11_far_54 (Nat.le_of_ble_eq_true rfl)) (fun x54 M54 h54 => ?_)
            obtain ⟨rfl, rfl⟩ := h54
            refine v_istore_n (pc := 57) dX11_far_57 rfl (by decide) rfl ?_
            refine v_iincN (pc := 58) (b := 1) dX11_far_58 rfl (by decide) (by decide) rfl ?_
            refine v_goto (pc := 61) (tgt := 31) dX11_far_61 (by decide) ?_
            exact ih (i + 1) (by omega) (by omega) (w_ff_n hno ef)
          · rw [w_bt (by omega)] at c43
            have ef : w_fr (b_m b) (b_n b) (2 ^ a) c i = some (nI i) := if_pos c43
            refine v_iload (pc := 46) dX11_far_46 rfl ?_
            exact v_iret (pc := 48) dX11_far_48 rfl rfl (Nat.le_of_ble_eq_true rfl) (Nat.le_of_ble_eq_true rfl) ⟨by simp only [s_far, e1, e2]; first | (rw [w_ff_s hno ef (by omega)]; rfl) | (rw [fr_6 (fun i => hB.2.2.2.2.1 i) (by omega), show 6 = i by omega, hno]; rfl), rfl⟩
      exact key 0 (Nat.zero_le _) rfl
    · have e2 := x_nat_n c19
      refine v_iconst (pc := 22) (v := -1) dX11_far_22 (by decide) ?_
      exact v_iret (pc := 23) dX11_far_23 rfl rfl (Nat.le_of_ble_eq_true rfl) (Nat.le_of_ble_eq_true rfl) ⟨by first | (simp only [s_far, e1]; done) | (simp only [s_far, e1, e2]; done), rfl⟩
