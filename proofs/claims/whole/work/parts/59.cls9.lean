theorem x_hw {ww : Int32} (h1 : ¬ ww < 0) (h2 : ww ≤ nI 1) : ww = nI 0 ∨ ww = nI 1 := x_two (vp_in_iff.mpr (by
  rw [Int32.le_iff_toInt_le, nI_toInt (by omega)] at h2
  have e5 := Int.not_lt.mp (fun z => h1 (Int32.lt_iff_toInt_lt.mpr z))
  have e0 : (0 : Int32).toInt = 0 := rfl
  rw [e0] at e5
  omega))
theorem x_n2 {ww : Int32} (h : ww < 0 ∨ ¬ ww ≤ nI 1) : x_nat ww 2 = none := x_nat_n (fun z => by
  have := vp_in_iff.mp z
  rcases h with h | h
  · have e := Int32.lt_iff_toInt_lt.mp h; have e0 : (0 : Int32).toInt = 0 := rfl; omega
  · have e := Int.not_le.mp (fun q => h (Int32.le_iff_toInt_le.mpr q)); rw [nI_toInt (by omega)] at e; omega)
abbrev rm_X11_lowest : Room := { frames := 0, cells := 0, slots := 0, locals := 0 }
set_option maxRecDepth 20000 in
theorem c_X11_lowest (G : v_G) (l : Launch) {K : Nat × v_TY} {I : Nat → Nat → Int32} {J : Nat → Nat → Int64} {R : Nat → Nat → Option Nat} {a d : Nat} {ww : Int32} (hb : a < 100000 ∧ d < 100000) : v_M G l yX11_lowest cX11_lowest 5 (some .long) rm_X11_lowest [.int (nI a), .int (nI d), .int ww] (K, I, J, R) (v_Ql G (fun (x : Int64) (M' : v_MM) => x = (if d = 0 ∨ x_nat ww 2 = none then s_no else s_low a d ww) ∧ M' = (K, I, J, R))) := by
  refine v_of [some (.int (nI a)), some (.int (nI d)), some (.int ww), none, none] (by decide) (Nat.le_of_ble_eq_true rfl) (Nat.le_of_ble_eq_true rfl) rfl ?_
  refine v_iload_n (pc := 0) dX11_lowest_0 rfl rfl ?_
  refine v_if_leN (pc := 1) (tgt := 13) (by omega) dX11_lowest_1 (by decide) (fun c1 => ?_) (fun c1 => ?_)
  · have er : (d = 0 ∨ x_nat ww 2 = none) := Or.inl (by omega)
    refine v_ldc2 (pc := 13) ld_X11_293 dX11_lowest_13 ?_
    exact v_lret (pc := 16) dX11_lowest_16 rfl (Nat.le_of_ble_eq_true rfl) (Nat.le_of_ble_eq_true rfl) ⟨(if_pos er).symm, rfl⟩
  · refine v_iload_n (pc := 4) dX11_lowest_4 rfl rfl ?_
    refine v_if_lt (pc := 5) (tgt := 13) dX11_lowest_5 (by decide) (fun c5 => ?_) (fun c5 => ?_)
    · have er : (d = 0 ∨ x_nat ww 2 = none) := Or.inr (x_n2 (Or.inl c5))
      refine v_ldc2 (pc := 13) ld_X11_293 dX11_lowest_13 ?_
      exact v_lret (pc := 16) dX11_lowest_16 rfl (Nat.le_of_ble_eq_true rfl) (Nat.le_of_ble_eq_true rfl) ⟨(if_pos er).symm, rfl⟩
    · refine v_iload_n (pc := 8) dX11_lowest_8 rfl rfl ?_
      refine v_iconst (pc := 9) (v := nI 1) dX11_lowest_9 (by decide) ?_
      refine v_icmp_le (pc := 10) (tgt := 17) dX11_lowest_10 (by decide) (fun c10 => ?_) (fun c10 => ?_)
      · have hw2 := x_hw c5 c10
        have er : ¬ (d = 0 ∨ x_nat ww 2 = none) := fun z => by rcases z with z | z; omega; rcases hw2 with rfl | rfl <;> cases z
        refine v_iconst (pc := 17) (v := nI 1) dX11_lowest_17 (by decide) ?_
        refine v_istore_n (pc := 18) dX11_lowest_18 rfl (by decide) rfl ?_
        refine v_iconst (pc := 19) (v := nI 2) dX11_lowest_19 (by decide) ?_
        refine v_istore (pc := 20) dX11_lowest_20 (by decide) rfl ?_
        have key : ∀ i, i ≤ d + 1 → 2 ≤ i → v_V G l yX11_lowest cX11_lowest 5 (some .long) rm_X11_lowest (v_Ql G (fun (x : Int64) (M' : v_MM) => x = (if d = 0 ∨ x_nat ww 2 = none then s_no else s_low a d ww) ∧ M' = (K, I, J, R))) 0 0 22 [some (.int (nI a)), some (.int (nI d)), some (.int ww), some (.int (nI (w_low a d (i - 2)))), some (.int (nI i))] [] (K, I, J, R) := by
          refine v_down (d + 1) (fun i hi ih => ?_)
          intro h2
          refine v_iload (pc := 22) dX11_lowest_22 rfl ?_
          refine v_iload_n (pc := 24) dX11_lowest_24 rfl rfl ?_
          refine v_icmp_gtN (pc := 25) (tgt := 51) ⟨by omega, by omega⟩ dX11_lowest_25 (by decide) (fun c25 => ?_) (fun c25 => ?_)
          · have ei : i = d + 1 := by omega
            subst ei
            have hgc := w_low_gcd (a := a) (d := d) (by omega)
            rw [show d + 1 - 2 = d - 1 by omega, hgc]
            have gp : 0 < Nat.gcd a d := Nat.gcd_pos_of_pos_right a (by omega)
            have gl : Nat.gcd a d ≤ d := Nat.le_of_dvd (by omega) (Nat.gcd_dvd_right a d)
            rcases hw2 with rfl | rfl
            · refine v_iload_n (pc := 51) dX11_lowest_51 rfl rfl ?_
              refine v_if_neN (pc := 52) (tgt := 59) (by omega) dX11_lowest_52 (by decide) (fun c52 => ?_) (fun c52 => ?_)
              · exact absurd rfl c52
              · refine v_iload_n (pc := 55) dX11_lowest_55 rfl rfl ?_
                refine v_goto (pc := 56) (tgt := 60) dX11_lowest_56 (by decide) ?_
                refine v_iload_n (pc := 60) dX11_lowest_60 rfl rfl ?_
                refine v_idivN (pc := 61) (by omega) gp (by omega) dX11_lowest_61 ?_
                refine v_i2l (pc := 62) dX11_lowest_62 ?_
                exact v_lret (pc := 63) dX11_lowest_63 rfl (Nat.le_of_ble_eq_true rfl) (Nat.le_of_ble_eq_true rfl) ⟨by rw [if_neg er, s_low, if_pos (by decide)], rfl⟩
            · refine v_iload_n (pc := 51) dX11_lowest_51 rfl rfl ?_
              refine v_if_neN (pc := 52) (tgt := 59) (by omega) dX11_lowest_52 (by decide) (fun c52 => ?_) (fun c52 => ?_)
              · refine v_iload_n (pc := 59) dX11_lowest_59 rfl rfl ?_
                refine v_iload_n (pc := 60) dX11_lowest_60 rfl rfl ?_
                refine v_idivN (pc := 61) (by omega) gp (by omega) dX11_lowest_61 ?_
                refine v_i2l (pc := 62) dX11_lowest_62 ?_
                exact v_lret (pc := 63) dX11_lowest_63 rfl (Nat.le_of_ble_eq_true rfl) (Nat.le_of_ble_eq_true rfl) ⟨by rw [if_neg er, s_low, if_neg (by decide)], rfl⟩
              · exact absurd c52 (by decide)
          · have goon := ih (i + 1) (by omega) (by omega) (by omega)
            have eg : w_low a d (i + 1 - 2) = if a % i = 0 ∧ d % i = 0 then i else w_low a d (i - 2) := by
              obtain ⟨m, rfl⟩ : ∃ m, i = m + 2 := ⟨i - 2, by omega⟩
              rw [show m + 2 + 1 - 2 = m + 1 by omega, show m + 2 - 2 = m by omega]; rfl
            rw [eg] at goon
            refine v_iload_n (pc := 28) dX11_lowest_28 rfl rfl ?_
            refine v_iload (pc := 29) dX11_lowest_29 rfl ?_
            refine v_iremN (pc := 31) (by omega) (by omega) (by omega) dX11_lowest_31 ?_
            refine v_if_neN (pc := 32) (tgt := 45) (Nat.lt_of_le_of_lt (Nat.mod_le _ _) (by omega)) dX11_lowest_32 (by decide) (fun c32 => ?_) (fun c32 => ?_)
            · refine v_iincN (pc := 45) (b := 1) dX11_lowest_45 rfl (by decide) (by decide) rfl ?_
              refine v_goto (pc := 48) (tgt := 22) dX11_lowest_48 (by decide) ?_
              first
                | (rw [if_pos (show a % i = 0 ∧ d % i = 0 from ⟨c32, c39⟩)] at goon; exact goon)
                | (rw [if_neg (show ¬ (a % i = 0 ∧ d % i = 0) from fun z => c32 z.1)] at goon; exact goon)
                | (rw [if_neg (show ¬ (a % i = 0 ∧ d % i = 0) from fun z => c39 z.2)] at goon; exact goon)
            · refine v_iload_n (pc := 35) dX11_lowest_35 rfl rfl ?_
              refine v_iload (pc := 36) dX11_lowest_36 rfl ?_
              refine v_iremN (pc := 38) (by omega) (by omega) (by omega) dX11_lowest_38 ?_
              refine v_if_neN (pc := 39) (tgt := 45) (Nat.lt_of_le_of_lt (Nat.mod_le _ _) (by omega)) dX11_lowest_39 (by decide) (fun c39 => ?_) (fun c39 => ?_)
              · refine v_iincN (pc := 45) (b := 1) dX11_lowest_45 rfl (by decide) (by decide) rfl ?_
                refine v_goto (pc := 48) (tgt := 22) dX11_lowest_48 (by decide) ?_
                first
                  | (rw [if_pos (show a % i = 0 ∧ d % i = 0 from ⟨c32, c39⟩)] at goon; exact goon)
                  | (rw [if_neg (show ¬ (a % i = 0 ∧ d % i = 0) from fun z => c32 z.1)] at goon; exact goon)
                  | (rw [if_neg (show ¬ (a % i = 0 ∧ d % i = 0) from fun z => c39 z.2)] at goon; exact goon)
              · refine v_iload (pc := 42) dX11_lowest_42 rfl ?_
                refine v_istore_n (pc := 44) dX11_lowest_44 rfl (by decide) rfl ?_
                refine v_iincN (pc := 45) (b := 1) dX11_lowest_45 rfl (by decide) (by decide) rfl ?_
                refine v_goto (pc := 48) (tgt := 22) dX11_lowest_48 (by decide) ?_
                first
                  | (rw [if_pos (show a % i = 0 ∧ d % i = 0 from ⟨c32, c39⟩)] at goon; exact goon)
                  | (rw [if_neg (show ¬ (a % i = 0 ∧ d % i = 0) from fun z => c32 z.1)] at goon; exact goon)
                  | (rw [if_neg (show ¬ (a % i = 0 ∧ d % i = 0) from fun z => c39 z.2)] at goon; exact goon)
        exact key 2 (by omega) (Nat.le_refl _)
      · have er : (d = 0 ∨ x_nat ww 2 = none) := Or.inr (x_n2 (Or.inr c10))
        refine v_ldc2 (pc := 13) ld_X11_293 dX11_lowest_13 ?_
        exact v_lret (pc := 16) dX11_lowest_16 rfl (Nat.le_of_ble_eq_true rfl) (Nat.le_of_ble_eq_true rfl) ⟨(if_pos er).symm, rfl⟩
def CWi (I : Nat → Nat → Int32) (h : Nat) (w : List (Nat × Bool)) : Prop := I h 8 = nI w.length ∧ ∀ (j : Nat) (q : Nat × Bool), w[j]? = some q → I (h + 5) j = nI q.1 ∧ I (h + 6) j = nI (if q.2 = true then 1 else 0)
def CBo (I : Nat → Nat → Int32) (h : Nat) (k : List (Nat × Nat)) : Prop := I h 11 = nI k.length ∧ ∀ (j : Nat) (q : Nat × Nat), k[j]? = some q → I (h + 7) j = nI q.1 ∧ I (h + 8) j = nI q.2
theorem c_tog {b : BS} {hm : Nat} {p : CLS} (he : VEQ (c_vw b hm p) (vw b 9 p)) : ∀ k, k ≤ w_pr (b_n b) → sm (fun k => w_com (c_vw b hm p) (w_l k) (w_g k)) k = sm (fun k => w_com (vw b 9 p) (w_l k) (w_g k)) k := fun k hk => sm_c (fun i hi => by
  obtain ⟨h1, h2⟩ := ve_lg (show b_n b ≤ 6 from he.2.1) (show i < w_pr (b_n b) by omega)
  have h6 : b_n b ≤ 6 := he.2.1
  exact ve_com he (by omega) (by omega))
theorem p_01 {a c : Bool} : nI (if a = true then 1 else 0) = nI (if c = true then 1 else 0) ↔ a = c := by cases a <;> cases c <;> decide
abbrev rm_X11_mean : Room := { frames := 10, cells := 0, slots := 0, locals := 549 }
set_option maxRecDepth 20000 in
theorem c_X11_mean (G : v_G) (l : Launch) {K : Nat × v_TY} {I : Nat → Nat → Int32} {J : Nat → Nat → Int64} {R : Nat → Nat → Option Nat} (hL : Lay K R) {ww : Int32} {b : BS} {hm : Nat} {p : CLS} (hv : CV K I R 1 b hm p) (hf : HF b hm) : v_M G l yX11_mean cX11_mean 4 (some .long) rm_X11_mean [.ref 0, .int ww] (K, I, J, R) (v_Ql G (fun (x : Int64) (M' : v_MM) => x = s_mean b p ww ∧ M' = (K, I, J, R))) := by
  refine v_of [some (.ref 0), some (.int ww), none, none] (by decide) (Nat.le_of_ble_eq_true rfl) (Nat.le_of_ble_eq_true rfl) rfl ?_
  have hB := hv.2.1
  have hn6 := hB.1
  have h15 := pr15 hn6
  have he := ve_now (p := p) hB hf
  refine v_iconst (pc := 0) (v := nI 0) dX11_mean_0 (by decide) ?_
  refine v_istore_n (pc := 1) dX11_mean_1 rfl (by decide) rfl ?_
  refine v_iconst (pc := 2) (v := nI 0) dX11_mean_2 (by decide) ?_
  refine v_istore_n (pc := 3) dX11_mean_3 rfl (by decide) rfl ?_
  have key : ∀ i, i ≤ w_pr (b_n b) → v_V G l yX11_mean cX11_mean 4 (some .long) rm_X11_mean (v_Ql G (fun (x : Int64) (M' : v_MM) => x = s_mean b p ww ∧ M' = (K, I, J, R))) 0 0 4 [some (.ref 0), some (.int ww), some (.int (nI (sm (fun k => w_com (c_vw b hm p) (w_l k) (w_g k)) i))), some (.int (nI i))] [] (K, I, J, R) := by
    refine v_down (w_pr (b_n b)) (fun i hi ih => ?_)
    refine v_iload_n (pc := 4) dX11_mean_4 rfl rfl ?_
    refine v_aload_n (pc := 5) dX11_mean_5 rfl rfl ?_
    refine v_getH (pc := 6) fg_X11_12_11 dX11_mean_6 (li_0 hL) (lr_0_0 hL) ?_
    refine v_ci (pc := 9) (v_rV (c_X9_pairCount G l hL (Or.inl rfl) hv.1.1 (by omega)) rfl kV_X11_162 (v_rcO (li_1 hL) rfl (by decide)) ⟨Nat.le_of_ble_eq_true rfl, Nat.le_of_ble_eq_true rfl⟩ ⟨Nat.le_of_ble_eq_true rfl, Nat.le_of_ble_eq_true rfl⟩ dX11_mean_9 (Nat.le_of_ble_eq_true rfl)) (fun x9 M9 h9 => ?_)
    obtain ⟨rfl, rfl⟩ := h9
    refine v_icmp_geN (pc := 12) (tgt := 32) ⟨by omega, by omega⟩ dX11_mean_12 (by decide) (fun c12 => ?_) (fun c12 => ?_)
    · have ei : i = w_pr (b_n b) := by omega
      have et := c_tog he i hi
      have hle := sm_le (f := fun k => w_com (c_vw b hm p) (w_l k) (w_g k)) (c := 18) (n := i) (fun k hk => (c_off_le hB (TN_ok hv.2.2.2.2) _ _).1)
      refine v_iload_n (pc := 32) dX11_mean_32 rfl rfl ?_
      refine v_aload_n (pc := 33) dX11_mean_33 rfl rfl ?_
      refine v_getH (pc := 34) fg_X11_12_11 dX11_mean_34 (li_0 hL) (lr_0_0 hL) ?_
      refine v_ci (pc := 37) (v_rV (c_X9_pairCount G l hL (Or.inl rfl) hv.1.1 (by omega)) rfl kV_X11_162 (v_rcO (li_1 hL) rfl (by decide)) ⟨Nat.le_of_ble_eq_true rfl, Nat.le_of_ble_eq_true rfl⟩ ⟨Nat.le_of_ble_eq_true rfl, Nat.le_of_ble_eq_true rfl⟩ dX11_mean_37 (Nat.le_of_ble_eq_true rfl)) (fun x37 M37 h37 => ?_)
      obtain ⟨rfl, rfl⟩ := h37
      refine v_iload_n (pc := 40) dX11_mean_40 rfl rfl ?_
      refine v_cl (pc := 41) (v_rS (c_X11_lowest G l ⟨by omega, by omega⟩) rfl kS_X11_221 ⟨Nat.le_of_ble_eq_true rfl, Nat.le_of_ble_eq_true rfl⟩ ⟨Nat.le_of_ble_eq_true rfl, Nat.le_of_ble_eq_true rfl⟩ dX11_mean_41 (Nat.le_of_ble_eq_true rfl)) (fun x41 M41 h41 => ?_)
      obtain ⟨rfl, rfl⟩ := h41
      exact v_lret (pc := 44) dX11_mean_44 rfl (Nat.le_of_ble_eq_true rfl) (Nat.le_of_ble_eq_true rfl) ⟨by rw [et, ei, s_mean]; show (if _ then _ else _) = _; by_cases c1 : x_nat ww 2 = none; (rw [if_pos (Or.inr c1), c1]); (obtain ⟨z, hz⟩ := Option.ne_none_iff_exists'.mp c1; rw [hz]; by_cases c2 : w_pr (b_n b) = 0; (rw [if_pos (Or.inl c2)]; exact (if_pos c2).symm); (rw [if_neg (fun q => q.elim c2 (fun q => by cases q))]; exact (if_neg c2).symm)), rfl⟩
    · refine v_iload_n (pc := 15) dX11_mean_15 rfl rfl ?_
      refine v_aload_n (pc := 16) dX11_mean_16 rfl rfl ?_
      refine v_getH (pc := 17) fg_X11_12_11 dX11_mean_17 (li_0 hL) (lr_0_0 hL) ?_
      refine v_iload_n (pc := 20) dX11_mean_20 rfl rfl ?_
      refine v_ci (pc := 21) (v_rV (c_X9_commonOf G l hL (Or.inl rfl) hv (by omega)) rfl kV_X11_124 (v_rcO (li_1 hL) rfl (by decide)) ⟨Nat.le_of_ble_eq_true rfl, Nat.le_of_ble_eq_true rfl⟩ ⟨Nat.le_of_ble_eq_true rfl, Nat.le_of_ble_eq_true rfl⟩ dX11_mean_21 (Nat.le_of_ble_eq_true rfl)) (fun x21 M21 h21 => ?_)
      obtain ⟨rfl, rfl⟩ := h21
      refine v_iaddN (pc := 24) dX11_mean_24 ?_
      refine v_istore_n (pc := 25) dX11_mean_25 rfl (by decide) rfl ?_
      refine v_iincN (pc := 26) (b := 1) dX11_mean_26 rfl (by decide) (by decide) rfl ?_
      refine v_goto (pc := 29) (tgt := 4) dX11_mean_29 (by decide) ?_
      exact ih (i + 1) (by omega) (by omega)
  exact key 0 (Nat.zero_le _)
abbrev rm_X11_kept : Room := { frames := 5, cells := 0, slots := 0, locals := 120 }
set_option maxRecDepth 20000 in
theorem c_X11_kept (G : v_G) (l : Launch) {K : Nat × v_TY} {I : Nat → Nat → Int32} {J : Nat → Nat → Int64} {R : Nat → Nat → Option Nat} (hL : Lay K R) {ww : Int32} {b : BS} {hm : Nat} {p : CLS} (hv : CV K I R 1 b hm p) (hf : HF b hm) {wi : List (Nat × Bool)} (hwi : CWi I 1 wi) (hq : ∀ q ∈ wi, q.1 < w_pr (b_n b)) (hl6 : wi.length ≤ 6) : v_M G l yX11_kept cX11_kept 6 (some .int) rm_X11_kept [.ref 0, .int ww] (K, I, J, R) (v_Qi G (fun (x : Int32) (M' : v_MM) => x = s_kept (vw b 9 p) wi ww ∧ ∃ I', M' = (K, I', J, R) ∧ cF 1 I I')) := by
  refine v_of [some (.ref 0), some (.int ww), none, none, none, none] (by decide) (Nat.le_of_ble_eq_true rfl) (Nat.le_of_ble_eq_true rfl) rfl ?_
  have hB := hv.2.1
  have hn6 := hB.1
  have h15 := pr15 hn6
  have he := ve_now (p := p) hB hf
  refine v_iload_n (pc := 0) dX11_kept_0 rfl rfl ?_
  refine v_if_lt (pc := 1) (tgt := 9) dX11_kept_1 (by decide) (fun c1 => ?_) (fun c1 => ?_)
  · have e2 := x_n2 (Or.inl c1)
    refine v_iconst (pc := 9) (v := -1) dX11_kept_9 (by decide) ?_
    exact v_iret (pc := 10) dX11_kept_10 rfl rfl (Nat.le_of_ble_eq_true rfl) (Nat.le_of_ble_eq_true rfl) ⟨by simp only [s_kept, e2], I, rfl, cF_rf⟩
  · refine v_iload_n (pc := 4) dX11_kept_4 rfl rfl ?_
    refine v_iconst (pc := 5) (v := nI 1) dX11_kept_5 (by decide) ?_
    refine v_icmp_le (pc := 6) (tgt := 11) dX11_kept_6 (by decide) (fun c6 => ?_) (fun c6 => ?_)
    · have hw2 := x_hw c1 c6
      refine v_iconst (pc := 11) (v := nI 0) dX11_kept_11 (by decide) ?_
      refine v_istore_n (pc := 12) dX11_kept_12 rfl (by decide) rfl ?_
      refine v_iconst (pc := 13) (v := nI 0) dX11_kept_13 (by decide) ?_
      refine v_istore_n (pc := 14) dX11_kept_14 rfl (by decide) rfl ?_
      refine v_iconst (pc := 15) (v := nI 0) dX11_kept_15 (by decide) ?_
      refine v_istore (pc := 16) dX11_kept_16 (by decide) rfl ?_
      have key : ∀ i, i ≤ wi.length → ∀ (Ii : Nat → Nat → Int32) (z5 : Option Value), cF 1 I Ii → v_V G l yX11_kept cX11_kept 6 (some .int) rm_X11_kept (v_Qi G (fun (x : Int32) (M' : v_MM) => x = s_kept (vw b 9 p) wi ww ∧ ∃ I', M' = (K, I', J, R) ∧ cF 1 I I')) 0 0 18 [some (.ref 0), some (.int ww), some (.int (nI (w_kn (vw b 9 p) (wi.take i)))), some (.int (nI (w_kc (vw b 9 p) (wi.take i)))), some (.int (nI i)), z5] [] (K, Ii, J, R) := by
        refine v_down wi.length (fun i hi ih => ?_)
        intro Ii z5 hI
        have hvi := CV_F hv (Or.inl rfl) hI
        refine v_iload (pc := 18) dX11_kept_18 rfl ?_
        refine v_aload_n (pc := 20) dX11_kept_20 rfl rfl ?_
        refine v_getH (pc := 21) fg_X11_12_11 dX11_kept_21 (li_0 hL) (lr_0_0 hL) ?_
        refine v_getV (pc := 24) fg_X11_225_9 dX11_kept_24 (li_1 hL) ((hI 1 8 (by decide)).trans hwi.1) ?_
        refine v_icmp_geN (pc := 27) (tgt := 91) ⟨by omega, by omega⟩ dX11_kept_27 (by decide) (fun c27 => ?_) (fun c27 => ?_)
        · have e : i = wi.length := by omega
          subst e
          rw [List.take_length]
          rcases hw2 with rfl | rfl
          · refine v_iload_n (pc := 91) dX11_kept_91 rfl rfl ?_
            refine v_if_neN (pc := 92) (tgt := 99) (by omega) dX11_kept_92 (by decide) (fun c92 => ?_) (fun c92 => ?_)
            · refine v_iload_n (pc := 99) dX11_kept_99 rfl rfl ?_
              exact v_iret (pc := 100) dX11_kept_100 rfl rfl (Nat.le_of_ble_eq_true rfl) (Nat.le_of_ble_eq_true rfl) ⟨by first | omega | rfl, Ii, rfl, hI⟩
            · refine v_iload_n (pc := 95) dX11_kept_95 rfl rfl ?_
              refine v_goto (pc := 96) (tgt := 100) dX11_kept_96 (by decide) ?_
              exact v_iret (pc := 100) dX11_kept_100 rfl rfl (Nat.le_of_ble_eq_true rfl) (Nat.le_of_ble_eq_true rfl) ⟨by first | omega | rfl, Ii, rfl, hI⟩
          · refine v_iload_n (pc := 91) dX11_kept_91 rfl rfl ?_
            refine v_if_neN (pc := 92) (tgt := 99) (by omega) dX11_kept_92 (by decide) (fun c92 => ?_) (fun c92 => ?_)
            · refine v_iload_n (pc := 99) dX11_kept_99 rfl rfl ?_
              exact v_iret (pc := 100) dX11_kept_100 rfl rfl (Nat.le_of_ble_eq_true rfl) (Nat.le_of_ble_eq_true rfl) ⟨by first | omega | rfl, Ii, rfl, hI⟩
            · refine v_iload_n (pc := 95) dX11_kept_95 rfl rfl ?_
              refine v_goto (pc := 96) (tgt := 100) dX11_kept_96 (by decide) ?_
              exact v_iret (pc := 100) dX11_kept_100 rfl rfl (Nat.le_of_ble_eq_true rfl) (Nat.le_of_ble_eq_true rfl) ⟨by first | omega | rfl, Ii, rfl, hI⟩
        · obtain ⟨q, hqi⟩ : ∃ q, wi[i]? = some q := ⟨_, List.getElem?_eq_getElem (show i < wi.length by omega)⟩
          have hqk := hq q (List.mem_of_getElem? hqi)
          have hg := w_g_in q.1 (by omega)
          have hwp := (hI (1 + 5) i (by decide)).trans (hwi.2 i q hqi).1
          have hwa := (hI (1 + 6) i (by decide)).trans (hwi.2 i q hqi).2
          have et := w_take hqi
          have hbit := w_bit9 b p (k := q.1) ⟨by omega, by omega⟩
          refine v_aload_n (pc := 30) dX11_kept_30 rfl rfl ?_
          refine v_getH (pc := 31) fg_X11_12_11 dX11_kept_31 (li_0 hL) (lr_0_0 hL) ?_
          refine v_getH (pc := 34) fg_X11_228_9 dX11_kept_34 (li_1 hL) (lr_1_9 hL) ?_
          refine v_iload (pc := 37) dX11_kept_37 rfl ?_
          refine v_ialoadN (pc := 39) dX11_kept_39 (li_6 hL) ⟨by omega, by omega⟩ hwp ?_
          refine v_istore (pc := 40) dX11_kept_40 (by decide) rfl ?_
          refine v_aload_n (pc := 42) dX11_kept_42 rfl rfl ?_
          refine v_getH (pc := 43) fg_X11_12_11 dX11_kept_43 (li_0 hL) (lr_0_0 hL) ?_
          refine v_iload (pc := 46) dX11_kept_46 rfl ?_
          refine v_ci (pc := 48) (v_rV (c_X9_areFriends G l hL (Or.inl rfl) hvi.1.2.2.2.1 (by omega)) rfl kV_X11_121 (v_rcO (li_1 hL) rfl (by decide)) ⟨Nat.le_of_ble_eq_true rfl, Nat.le_of_ble_eq_true rfl⟩ ⟨Nat.le_of_ble_eq_true rfl, Nat.le_of_ble_eq_true rfl⟩ dX11_kept_48 (Nat.le_of_ble_eq_true rfl)) (fun x48 M48 h48 => ?_)
          obtain ⟨rfl, rfl⟩ := h48
          refine v_ci (pc := 51) (v_rS (c_X11_asNumber G l (a := (b_m b (w_l q.1)).testBit (w_g q.1))) rfl kS_X11_101 ⟨Nat.le_of_ble_eq_true rfl, Nat.le_of_ble_eq_true rfl⟩ ⟨Nat.le_of_ble_eq_true rfl, Nat.le_of_ble_eq_true rfl⟩ dX11_kept_51 (Nat.le_of_ble_eq_true rfl)) (fun x51 M51 h51 => ?_)
          obtain ⟨rfl, rfl⟩ := h51
          refine v_aload_n (pc := 54) dX11_kept_54 rfl rfl ?_
          refine v_getH (pc := 55) fg_X11_12_11 dX11_kept_55 (li_0 hL) (lr_0_0 hL) ?_
          refine v_getH (pc := 58) fg_X11_231_9 dX11_kept_58 (li_1 hL) (lr_1_10 hL) ?_
          refine v_iload (pc := 61) dX11_kept_61 rfl ?_
          refine v_ialoadN (pc := 63) dX11_kept_63 (li_7 hL) ⟨by omega, by omega⟩ hwa ?_
          refine v_icmp_ne (pc := 64) (tgt := 73) dX11_kept_64 (by decide) (fun c64 => ?_) (fun c64 => ?_)
          · rw [p_01, hbit] at c64
            refine v_iload_n (pc := 73) dX11_kept_73 rfl rfl ?_
            refine v_aload_n (pc := 74) dX11_kept_74 rfl rfl ?_
            refine v_getH (pc := 75) fg_X11_12_11 dX11_kept_75 (li_0 hL) (lr_0_0 hL) ?_
            refine v_iload (pc := 78) dX11_kept_78 rfl ?_
            refine v_ci (pc := 80) (v_rV (c_X9_priceOf G l hL (Or.inl rfl) hvi (by omega)) rfl kV_X11_131 (v_rcO (li_1 hL) rfl (by decide)) ⟨Nat.le_of_ble_eq_true rfl, Nat.le_of_ble_eq_true rfl⟩ ⟨Nat.le_of_ble_eq_true rfl, Nat.le_of_ble_eq_true rfl⟩ dX11_kept_80 (Nat.le_of_ble_eq_true rfl)) (fun x80 M80 h80 => ?_)
            obtain ⟨rfl, I80, rfl, f80⟩ := h80
            rw [ve_price he (by omega) (by omega)]
            refine v_iaddN (pc := 83) dX11_kept_83 ?_
            refine v_istore_n (pc := 84) dX11_kept_84 rfl (by decide) rfl ?_
            refine v_iincN (pc := 85) (b := 1) dX11_kept_85 rfl (by decide) (by decide) rfl ?_
            refine v_goto (pc := 88) (tgt := 18) dX11_kept_88 (by decide) ?_
            first
              | (have e := fun z => ih (i + 1) (by omega) (by omega) Ii z hI; rw [et, w_kn_a, w_kc_a, if_pos c64, if_pos c64] at e; exact e _)
              | (have e := fun z => ih (i + 1) (by omega) (by omega) I80 z (cF_tr hI f80); rw [et, w_kn_a, w_kc_a, if_neg c64, if_neg c64] at e; exact e _)
          · rw [p_01, hbit] at c64
            refine v_iincN (pc := 67) (b := 1) dX11_kept_67 rfl (by decide) (by decide) rfl ?_
            refine v_goto (pc := 70) (tgt := 85) dX11_kept_70 (by decide) ?_
            refine v_iincN (pc := 85) (b := 1) dX11_kept_85 rfl (by decide) (by decide) rfl ?_
            refine v_goto (pc := 88) (tgt := 18) dX11_kept_88 (by decide) ?_
            first
              | (have e := fun z => ih (i + 1) (by omega) (by omega) Ii z hI; rw [et, w_kn_a, w_kc_a, if_pos c64, if_pos c64] at e; exact e _)
              | (have e := fun z => ih (i + 1) (by omega) (by omega) I80 z (cF_tr hI f80); rw [et, w_kn_a, w_kc_a, if_neg c64, if_neg c64] at e; exact e _)
      exact key 0 (Nat.zero_le _) I none cF_rf
    · have e2 := x_n2 (Or.inr c6)
      refine v_iconst (pc := 9) (v := -1) dX11_kept_9 (by decide) ?_
      exact v_iret (pc := 10) dX11_kept_10 rfl rfl (Nat.le_of_ble_eq_true rfl) (Nat.le_of_ble_eq_true rfl) ⟨by simp only [s_kept, e2], I, rfl, cF_rf⟩
abbrev rm_X11_looked : Room := { frames := 10, cells := 0, slots := 0, locals := 549 }
set_option maxRecDepth 20000 in
theorem c_X11_looked (G : v_G) (l : Launch) {K : Nat × v_TY} {I : Nat → Nat → Int32} {J : Nat → Nat → Int64} {R : Nat → Nat → Option Nat} (hL : Lay K R) {b : BS} {hm : Nat} {p : CLS} (hv : CV K I R 1 b hm p) (hf : HF b hm) {bo : List (Nat × Nat)} (hbo : CBo I 1 bo) (hq : ∀ q ∈ bo, q.1 < w_pr (b_n b) ∧ q.2 < 100) (hl : bo.length ≤ 12) : v_M G l yX11_looked cX11_looked 2 (some .int) rm_X11_looked [.ref 0] (K, I, J, R) (v_Qi G (fun (x : Int32) (M' : v_MM) => x = s_looked b p bo ∧ M' = (K, I, J, R))) := by
  refine v_of [some (.ref 0), none] (by decide) (Nat.le_of_ble_eq_true rfl) (Nat.le_of_ble_eq_true rfl) rfl ?_
  have hB := hv.2.1
  have hn6 := hB.1
  have h15 := pr15 hn6
  have he := ve_now (p := p) hB hf
  refine v_iconst (pc := 0) (v := nI 0) dX11_looked_0 (by decide) ?_
  refine v_istore_n (pc := 1) dX11_looked_1 rfl (by decide) rfl ?_
  refine v_down bo.length (P := fun i => w_ff (w_lk b p bo) i = none → v_V G l yX11_looked cX11_looked 2 (some .int) rm_X11_looked (v_Qi G (fun (x : Int32) (M' : v_MM) => x = s_looked b p bo ∧ M' = (K, I, J, R))) 0 0 2 [some (.ref 0), some (.int (nI i))] [] (K, I, J, R)) (fun i hi ih => ?_) 0 (by omega) rfl
  intro hno
  refine v_iload_n (pc := 2) dX11_looked_2 rfl rfl ?_
  refine v_aload_n (pc := 3) dX11_looked_3 rfl rfl ?_
  refine v_getH (pc := 4) fg_X11_12_11 dX11_looked_4 (li_0 hL) (lr_0_0 hL) ?_
  refine v_getV (pc := 7) fg_X11_234_9 dX11_looked_7 (li_1 hL) hbo.1 ?_
  refine v_icmp_geN (pc := 10) (tgt := 49) ⟨by omega, by omega⟩ dX11_looked_10 (by decide) (fun c10 => ?_) (fun c10 => ?_)
  · refine v_bipush (pc := 49) (v := -5) dX11_looked_49 (by decide) ?_
    exact v_iret (pc := 51) dX11_looked_51 rfl rfl (Nat.le_of_ble_eq_true rfl) (Nat.le_of_ble_eq_true rfl) ⟨by first | (rw [s_looked, w_ff_s hno (x := nI i) (by rw [w_lk, hqi]; exact if_neg c38) (by omega)]; rfl) | (rw [s_looked, show bo.length = i by omega, hno]; rfl), rfl⟩
  · obtain ⟨q, hqi⟩ : ∃ q, bo[i]? = some q := ⟨_, List.getElem?_eq_getElem (show i < bo.length by omega)⟩
    have hqk := hq q (List.mem_of_getElem? hqi)
    have hg := w_g_in q.1 (by omega)
    have hco := (c_off_le (hm := hm) hB (TN_ok hv.2.2.2.2) (w_l q.1) (w_g q.1)).1
    have ecm : w_com (c_vw b hm p) (w_l q.1) (w_g q.1) = w_com (vw b 9 p) (w_l q.1) (w_g q.1) := ve_com he (by omega) (by omega)
    refine v_aload_n (pc := 13) dX11_looked_13 rfl rfl ?_
    refine v_getH (pc := 14) fg_X11_12_11 dX11_looked_14 (li_0 hL) (lr_0_0 hL) ?_
    refine v_aload_n (pc := 17) dX11_looked_17 rfl rfl ?_
    refine v_getH (pc := 18) fg_X11_12_11 dX11_looked_18 (li_0 hL) (lr_0_0 hL) ?_
    refine v_getH (pc := 21) fg_X11_237_9 dX11_looked_21 (li_1 hL) (lr_1_12 hL) ?_
    refine v_iload_n (pc := 24) dX11_looked_24 rfl rfl ?_
    refine v_ialoadN (pc := 25) dX11_looked_25 (li_8 hL) ⟨by omega, by omega⟩ (hbo.2 i q hqi).1 ?_
    refine v_ci (pc := 26) (v_rV (c_X9_commonOf G l hL (Or.inl rfl) hv (by omega)) rfl kV_X11_124 (v_rcO (li_1 hL) rfl (by decide)) ⟨Nat.le_of_ble_eq_true rfl, Nat.le_of_ble_eq_true rfl⟩ ⟨Nat.le_of_ble_eq_true rfl, Nat.le_of_ble_eq_true rfl⟩ dX11_looked_26 (Nat.le_of_ble_eq_true rfl)) (fun x26 M26 h26 => ?_)
    obtain ⟨rfl, rfl⟩ := h26
    refine v_aload_n (pc := 29) dX11_looked_29 rfl rfl ?_
    refine v_getH (pc := 30) fg_X11_12_11 dX11_looked_30 (li_0 hL) (lr_0_0 hL) ?_
    refine v_getH (pc := 33) fg_X11_240_9 dX11_looked_33 (li_1 hL) (lr_1_13 hL) ?_
    refine v_iload_n (pc := 36) dX11_looked_36 rfl rfl ?_
    refine v_ialoadN (pc := 37) dX11_looked_37 (li_9 hL) ⟨by omega, by omega⟩ (hbo.2 i q hqi).2 ?_
    refine v_icmp_eqN (pc := 38) (tgt := 43) ⟨by omega, by omega⟩ dX11_looked_38 (by decide) (fun c38 => ?_) (fun c38 => ?_)
    · rw [ecm] at c38
      refine v_iincN (pc := 43) (b := 1) dX11_looked_43 rfl (by decide) (by decide) rfl ?_
      refine v_goto (pc := 46) (tgt := 2) dX11_looked_46 (by decide) ?_
      exact ih (i + 1) (by omega) (by omega) (w_ff_n hno (by rw [w_lk, hqi]; exact if_pos c38))
    · rw [ecm] at c38
      refine v_iload_n (pc := 41) dX11_looked_41 rfl rfl ?_
      exact v_iret (pc := 42) dX11_looked_42 rfl rfl (Nat.le_of_ble_eq_true rfl) (Nat.le_of_ble_eq_true rfl) ⟨by first | (rw [s_looked, w_ff_s hno (x := nI i) (by rw [w_lk, hqi]; exact if_neg c38) (by omega)]; rfl) | (rw [s_looked, show bo.length = i by omega, hno]; rfl), rfl⟩
