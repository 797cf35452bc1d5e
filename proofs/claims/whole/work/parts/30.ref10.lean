/-! THE REFERENCE: odds, mean, made, far -/
def s_no : Int64 := -9223372036854775808
def s_low (a d : Nat) (w : Int32) : Int64 := (nI ((if w = 0 then a else d) / Nat.gcd a d)).toInt64
theorem w_gcd (p q : Nat) : Nat.gcd q (p % q) = Nat.gcd p q := by
  rw [Nat.gcd_comm p q, Nat.gcd_rec q p, Nat.gcd_comm]
def w_good (b : BS) (p : CLS) : Nat := cnt (fun k => w_a (vw b 9 p) (w_l k) (w_g k) && decide (w_tr b p k = 0)) (w_pr (b_n b))
def w_tog (b : BS) (p : CLS) : Nat := sm (fun k => w_com (vw b 9 p) (w_l k) (w_g k)) (w_pr (b_n b))
def s_odds (b : BS) (p : CLS) (w : Int32) : Int64 := match x_nat w 2 with
  | none => s_no
  | some _ => if w_frs b = 0 then s_no else s_low (w_good b p) (w_frs b) w
def s_mean (b : BS) (p : CLS) (w : Int32) : Int64 := match x_nat w 2 with
  | none => s_no
  | some _ => if w_pr (b_n b) = 0 then s_no else s_low (w_tog b p) (w_pr (b_n b)) w
theorem w_frs_lt {b : BS} (h : VB b) : w_frs b ≤ 21 := by
  have h1 := sm_le (f := fun i => cnt (fun j => (b_m b i).testBit j) 7) (c := 7) (n := b_n b) (fun j _ => cnt_le _ _)
  have h2 := h.1
  unfold w_frs
  omega
theorem w_bit9 (b : BS) (p : CLS) {k : Nat} (hk : w_l k < w_g k ∧ w_g k ≤ 5) : (b_m b (w_l k)).testBit (w_g k) = w_a (vw b 9 p) (w_l k) (w_g k) := by
  rw [vw_a, decide_eq_true (show w_l k ≠ 9 by omega), decide_eq_true (show w_g k ≠ 9 by omega), Bool.and_true, Bool.and_true]
/-- whether each of n has told so many as there are -/
def w_told (v : VW) (c : Nat → Nat) (n : Nat) : Bool := al (fun p => decide (w_cp v (w_pr n) p = c p)) n
def w_mk (b : BS) (p : CLS) (c : Nat → Nat) (k : Nat) : Option Int32 := if w_told (vw (b_fp b k) 9 p) c (b_n b) = true then some (nI k) else none
def s_made (b : BS) (p : CLS) (c : Nat → Nat) : Int32 := if w_told (vw b 9 p) c (b_n b) = true then 100 else (w_ff (w_mk b p c) (w_pr (b_n b))).getD (-5)
/-- those of a set and the friends of the first i of it -/
def w_grow (m : Nat → Nat) (S : Nat) : Nat → Nat
  | 0 => S
  | i + 1 => if S.testBit i = true then w_grow m S i ||| m i else w_grow m S i
def w_gs (m : Nat → Nat) (n S : Nat) : Nat → Nat
  | 0 => S
  | k + 1 => w_grow m (w_gs m n S k) n
def w_fr (m : Nat → Nat) (n S c k : Nat) : Option Int32 := if (w_gs m n S k).testBit c = true then some (nI k) else none
def s_far (m : Nat → Nat) (n : Nat) (a c : Int32) : Int32 := match x_nat a n, x_nat c n with
  | some a, some c => (w_ff (w_fr m n (2 ^ a) c) 7).getD (-5)
  | _, _ => -1
theorem w_grow_lt {m : Nat → Nat} (hm : ∀ i, m i < 64) {S : Nat} (hS : S < 64) : ∀ i, w_grow m S i < 64
  | 0 => hS
  | i + 1 => by
    show (if S.testBit i = true then w_grow m S i ||| m i else w_grow m S i) < 64
    split
    · exact Nat.or_lt_two_pow (n := 6) (w_grow_lt hm hS i) (hm i)
    · exact w_grow_lt hm hS i
theorem w_gs_lt {m : Nat → Nat} (hm : ∀ i, m i < 64) {n S : Nat} (hS : S < 64) : ∀ k, w_gs m n S k < 64
  | 0 => hS
  | k + 1 => w_grow_lt hm (w_gs_lt hm hS k) n
abbrev rm_X12_divisor : Room := { frames := 0, cells := 0, slots := 0, locals := 0 }
set_option maxRecDepth 20000 in
theorem c_X12_divisor (G : v_G) (l : Launch) {K : Nat × v_TY} {I : Nat → Nat → Int32} {J : Nat → Nat → Int64} {R : Nat → Nat → Option Nat} (hL : Lay K R) {a d : Nat} (hb : a < 2 ^ 31 ∧ d < 2 ^ 31) : v_M G l yX12_divisor cX12_divisor 6 (some .int) rm_X12_divisor [.ref 55, .int (nI a), .int (nI d)] (K, I, J, R) (v_Qi G (fun (x : Int32) (M' : v_MM) => x = nI (Nat.gcd a d) ∧ M' = (K, I, J, R))) := by
  refine v_of [some (.ref 55), some (.int (nI a)), some (.int (nI d)), none, none, none] (by decide) (Nat.le_of_ble_eq_true rfl) (Nat.le_of_ble_eq_true rfl) rfl ?_
  refine v_iload_n (pc := 0) dX12_divisor_0 rfl rfl ?_
  refine v_istore_n (pc := 1) dX12_divisor_1 rfl (by decide) rfl ?_
  refine v_iload_n (pc := 2) dX12_divisor_2 rfl rfl ?_
  refine v_istore (pc := 3) dX12_divisor_3 (by decide) rfl ?_
  refine v_lvs (lv' := [some (.ref 55), some (.int (nI a)), some (.int (nI d)), some (.int (nI a)), some (.int (nI d)), none]) rfl ?_
  have key : ∀ (q : Nat × Nat), q.1 < 2 ^ 31 → q.2 < 2 ^ 31 → Nat.gcd q.1 q.2 = Nat.gcd a d → ∀ z5 : Option Value, v_V G l yX12_divisor cX12_divisor 6 (some .int) rm_X12_divisor (v_Qi G (fun (x : Int32) (M' : v_MM) => x = nI (Nat.gcd a d) ∧ M' = (K, I, J, R))) 0 0 5 [some (.ref 55), some (.int (nI a)), some (.int (nI d)), some (.int (nI q.1)), some (.int (nI q.2)), z5] [] (K, I, J, R) := by
    refine v_meas (fun q => q.2) (fun q ih => ?_)
    obtain ⟨p, q⟩ := q
    intro hp hq hg z5
    dsimp only at hp hq hg ih ⊢
    refine v_iload (pc := 5) dX12_divisor_5 rfl ?_
    refine v_if_eqN (pc := 7) (tgt := 26) (by omega) dX12_divisor_7 (by decide) (fun c7 => ?_) (fun c7 => ?_)
    · refine v_iload_n (pc := 26) dX12_divisor_26 rfl rfl ?_
      exact v_iret (pc := 27) dX12_divisor_27 rfl rfl (Nat.le_of_ble_eq_true rfl) (Nat.le_of_ble_eq_true rfl) ⟨by rw [← hg, c7, Nat.gcd_zero_right], rfl⟩
    · refine v_iload_n (pc := 10) dX12_divisor_10 rfl rfl ?_
      refine v_iload (pc := 11) dX12_divisor_11 rfl ?_
      refine v_iremN (pc := 13) hp (by omega) hq dX12_divisor_13 ?_
      refine v_istore (pc := 14) dX12_divisor_14 (by decide) rfl ?_
      refine v_iload (pc := 16) dX12_divisor_16 rfl ?_
      refine v_istore_n (pc := 18) dX12_divisor_18 rfl (by decide) rfl ?_
      refine v_iload (pc := 19) dX12_divisor_19 rfl ?_
      refine v_istore (pc := 21) dX12_divisor_21 (by decide) rfl ?_
      refine v_goto (pc := 23) (tgt := 5) dX12_divisor_23 (by decide) ?_
      exact ih (q, p % q) (Nat.mod_lt _ (by omega)) hq (Nat.lt_of_lt_of_le (Nat.mod_lt _ (by omega)) (Nat.le_of_lt hq)) ((w_gcd p q).trans hg) _
  exact key (a, d) hb.1 hb.2 rfl none
abbrev rm_X12_lowest : Room := { frames := 1, cells := 0, slots := 0, locals := 25 }
set_option maxRecDepth 20000 in
theorem c_X12_lowest (G : v_G) (l : Launch) {K : Nat × v_TY} {I : Nat → Nat → Int32} {J : Nat → Nat → Int64} {R : Nat → Nat → Option Nat} (hL : Lay K R) {a d : Nat} {ww : Int32} (hb : a < 2 ^ 31 ∧ d < 2 ^ 31) (h0 : 0 < d) : v_M G l yX12_lowest cX12_lowest 5 (some .long) rm_X12_lowest [.ref 55, .int (nI a), .int (nI d), .int ww] (K, I, J, R) (v_Ql G (fun (x : Int64) (M' : v_MM) => x = s_low a d ww ∧ M' = (K, I, J, R))) := by
  refine v_of [some (.ref 55), some (.int (nI a)), some (.int (nI d)), some (.int ww), none] (by decide) (Nat.le_of_ble_eq_true rfl) (Nat.le_of_ble_eq_true rfl) rfl ?_
  have hg0 : 0 < Nat.gcd a d := Nat.gcd_pos_of_pos_right a h0
  have hg1 : Nat.gcd a d ≤ d := Nat.le_of_dvd h0 (Nat.gcd_dvd_right a d)
  refine v_aload_n (pc := 0) dX12_lowest_0 rfl rfl ?_
  refine v_iload_n (pc := 1) dX12_lowest_1 rfl rfl ?_
  refine v_iload_n (pc := 2) dX12_lowest_2 rfl rfl ?_
  refine v_ci (pc := 3) (v_rV (c_X12_divisor G l hL hb) rfl kV_X12_344 (v_rcO (li_55 hL) rfl (by decide)) ⟨Nat.le_of_ble_eq_true rfl, Nat.le_of_ble_eq_true rfl⟩ ⟨Nat.le_of_ble_eq_true rfl, Nat.le_of_ble_eq_true rfl⟩ dX12_lowest_3 (Nat.le_of_ble_eq_true rfl)) (fun x3 M3 h3 => ?_)
  obtain ⟨rfl, rfl⟩ := h3
  refine v_istore (pc := 6) dX12_lowest_6 (by decide) rfl ?_
  refine v_iload_n (pc := 8) dX12_lowest_8 rfl rfl ?_
  refine v_if_ne (pc := 9) (tgt := 20) dX12_lowest_9 (by decide) (fun c9 => ?_) (fun c9 => ?_)
  · refine v_iload_n (pc := 20) dX12_lowest_20 rfl rfl ?_
    refine v_iload (pc := 21) dX12_lowest_21 rfl ?_
    refine v_idivN (pc := 23) (by omega) hg0 (by omega) dX12_lowest_23 ?_
    refine v_i2l (pc := 24) dX12_lowest_24 ?_
    exact v_lret (pc := 25) dX12_lowest_25 rfl (Nat.le_of_ble_eq_true rfl) (Nat.le_of_ble_eq_true rfl) ⟨by first | (rw [s_low, if_pos c9]; done) | (rw [s_low, if_neg c9]; done), rfl⟩
  · refine v_iload_n (pc := 12) dX12_lowest_12 rfl rfl ?_
    refine v_iload (pc := 13) dX12_lowest_13 rfl ?_
    refine v_idivN (pc := 15) (by omega) hg0 (by omega) dX12_lowest_15 ?_
    refine v_i2l (pc := 16) dX12_lowest_16 ?_
    refine v_goto (pc := 17) (tgt := 25) dX12_lowest_17 (by decide) ?_
    exact v_lret (pc := 25) dX12_lowest_25 rfl (Nat.le_of_ble_eq_true rfl) (Nat.le_of_ble_eq_true rfl) ⟨by first | (rw [s_low, if_pos c9]; done) | (rw [s_low, if_neg c9]; done), rfl⟩
abbrev rm_X12_odds : Room := { frames := 8, cells := 0, slots := 0, locals := 190 }
set_option maxRecDepth 20000 in
theorem c_X12_odds (G : v_G) (l : Launch) {K : Nat × v_TY} {I : Nat → Nat → Int32} {J : Nat → Nat → Int64} {R : Nat → Nat → Option Nat} (hL : Lay K R) {ww : Int32} {b : BS} {p : List (Nat × Nat × List Nat)} (h : MW I b 9 p) : v_M G l yX12_odds cX12_odds 5 (some .long) rm_X12_odds [.ref 55, .int ww] (K, I, J, R) (v_Ql G (fun (x : Int64) (M' : v_MM) => x = s_odds b p ww ∧ ∃ I', M' = (K, I', J, R) ∧ mJ I I')) := by
  refine v_of [some (.ref 55), some (.int ww), none, none, none] (by decide) (Nat.le_of_ble_eq_true rfl) (Nat.le_of_ble_eq_true rfl) rfl ?_
  have hn := VBn h.1
  have h15 := w_pr_lt (b_n b) (by omega)
  have hfl := w_frs_lt h.1.2.1
  refine v_aload_n (pc := 0) dX12_odds_0 rfl rfl ?_
  refine v_ci (pc := 1) (v_rV (c_X12_friendships G l hL h) rfl kV_X12_319 (v_rcO (li_55 hL) rfl (by decide)) ⟨Nat.le_of_ble_eq_true rfl, Nat.le_of_ble_eq_true rfl⟩ ⟨Nat.le_of_ble_eq_true rfl, Nat.le_of_ble_eq_true rfl⟩ dX12_odds_1 (Nat.le_of_ble_eq_true rfl)) (fun x1 M1 h1 => ?_)
  obtain ⟨rfl, rfl⟩ := h1
  refine v_istore_n (pc := 4) dX12_odds_4 rfl (by decide) rfl ?_
  refine v_aload_n (pc := 5) dX12_odds_5 rfl rfl ?_
  refine v_iload_n (pc := 6) dX12_odds_6 rfl rfl ?_
  refine v_iconst (pc := 7) (v := nI 0) dX12_odds_7 (by decide) ?_
  refine v_iconst (pc := 8) (v := nI 1) dX12_odds_8 (by decide) ?_
  refine v_ci (pc := 9) (v_rV (c_X12_in G l hL) rfl kV_X12_197 (v_rcO (li_55 hL) rfl (by decide)) ⟨Nat.le_of_ble_eq_true rfl, Nat.le_of_ble_eq_true rfl⟩ ⟨Nat.le_of_ble_eq_true rfl, Nat.le_of_ble_eq_true rfl⟩ dX12_odds_9 (Nat.le_of_ble_eq_true rfl)) (fun x9 M9 h9 => ?_)
  obtain ⟨rfl, rfl⟩ := h9
  refine v_if_eqP (pc := 12) (tgt := 19) dX12_odds_12 (by decide) (fun c12 => ?_) (fun c12 => ?_)
  · have e2 : x_nat ww 2 = none := x_nat_n (fun z => c12 (v_in_iff (by decide) |>.mpr z))
    refine v_ldc2 (pc := 19) ld_X12_347 dX12_odds_19 ?_
    exact v_lret (pc := 22) dX12_odds_22 rfl (Nat.le_of_ble_eq_true rfl) (Nat.le_of_ble_eq_true rfl) ⟨by first | (simp only [s_odds, e2]; rfl) | (simp only [s_odds, e2]; rw [if_pos (by omega)]; rfl), I, rfl, mJ_rf⟩
  · have hw2 := x_two (v_in_iff (by decide) |>.mp c12)
    have e2 : ∃ k, x_nat ww 2 = some k := by rcases hw2 with rfl | rfl; exact ⟨0, rfl⟩; exact ⟨1, rfl⟩
    obtain ⟨k2, e2⟩ := e2
    refine v_iload_n (pc := 15) dX12_odds_15 rfl rfl ?_
    refine v_if_neN (pc := 16) (tgt := 23) (by omega) dX12_odds_16 (by decide) (fun c16 => ?_) (fun c16 => ?_)
    · refine v_iconst (pc := 23) (v := nI 0) dX12_odds_23 (by decide) ?_
      refine v_istore_n (pc := 24) dX12_odds_24 rfl (by decide) rfl ?_
      refine v_iconst (pc := 25) (v := nI 0) dX12_odds_25 (by decide) ?_
      refine v_istore (pc := 26) dX12_odds_26 (by decide) rfl ?_
      have key : ∀ i, i ≤ w_pr (b_n b) → ∀ (Ii : Nat → Nat → Int32), mJ I Ii → v_V G l yX12_odds cX12_odds 5 (some .long) rm_X12_odds (v_Ql G (fun (x : Int64) (M' : v_MM) => x = s_odds b p ww ∧ ∃ I', M' = (K, I', J, R) ∧ mJ I I')) 0 0 28 [some (.ref 55), some (.int ww), some (.int (nI (w_frs b))), some (.int (nI (cnt (fun k => w_a (vw b 9 p) (w_l k) (w_g k) && decide (w_tr b p k = 0)) i))), some (.int (nI i))] [] (K, Ii, J, R) := by
        refine v_down (w_pr (b_n b)) (fun i hi ih => ?_)
        intro Ii hj
        have hw := MW_J h hj
        refine v_iload (pc := 28) dX12_odds_28 rfl ?_
        refine v_aload_n (pc := 30) dX12_odds_30 rfl rfl ?_
        refine v_ci (pc := 31) (v_rV (c_X12_pairs G l hL (MVn hw.1) (by omega)) rfl kV_X12_201 (v_rcO (li_55 hL) rfl (by decide)) ⟨Nat.le_of_ble_eq_true rfl, Nat.le_of_ble_eq_true rfl⟩ ⟨Nat.le_of_ble_eq_true rfl, Nat.le_of_ble_eq_true rfl⟩ dX12_odds_31 (Nat.le_of_ble_eq_true rfl)) (fun x31 M31 h31 => ?_)
        obtain ⟨rfl, rfl⟩ := h31
        refine v_icmp_geN (pc := 34) (tgt := 84) ⟨by omega, by omega⟩ dX12_odds_34 (by decide) (fun c34 => ?_) (fun c34 => ?_)
        · have e : i = w_pr (b_n b) := by omega
          subst e
          refine v_aload_n (pc := 84) dX12_odds_84 rfl rfl ?_
          refine v_iload_n (pc := 85) dX12_odds_85 rfl rfl ?_
          refine v_iload_n (pc := 86) dX12_odds_86 rfl rfl ?_
          refine v_iload_n (pc := 87) dX12_odds_87 rfl rfl ?_
          refine v_cl (pc := 88) (v_rV (c_X12_lowest G l hL ⟨by have := cnt_le (fun k => w_a (vw b 9 p) (w_l k) (w_g k) && decide (w_tr b p k = 0)) (w_pr (b_n b)); omega, by omega⟩ (by omega)) rfl kV_X12_349 (v_rcO (li_55 hL) rfl (by decide)) ⟨Nat.le_of_ble_eq_true rfl, Nat.le_of_ble_eq_true rfl⟩ ⟨Nat.le_of_ble_eq_true rfl, Nat.le_of_ble_eq_true rfl⟩ dX12_odds_88 (Nat.le_of_ble_eq_true rfl)) (fun x88 M88 h88 => ?_)
          obtain ⟨rfl, rfl⟩ := h88
          exact v_lret (pc := 91) dX12_odds_91 rfl (Nat.le_of_ble_eq_true rfl) (Nat.le_of_ble_eq_true rfl) ⟨by simp only [s_odds, e2]; rw [if_neg (by omega)]; rfl, Ii, rfl, hj⟩
        · have hg := w_g_in i (by omega)
          have hmt := w_many_lt (VB_fp h.1.2.1 (k := i) (by omega)) 9 p
          have hbit := w_bit9 b p (k := i) ⟨by omega, by omega⟩
          have goon := ih (i + 1) (by omega) (by omega)
          rw [show cnt (fun k => w_a (vw b 9 p) (w_l k) (w_g k) && decide (w_tr b p k = 0)) (i + 1) = cnt (fun k => w_a (vw b 9 p) (w_l k) (w_g k) && decide (w_tr b p k = 0)) i + (if (w_a (vw b 9 p) (w_l i) (w_g i) && decide (w_tr b p i = 0)) = true then 1 else 0) from rfl] at goon
          refine v_iload_n (pc := 37) dX12_odds_37 rfl rfl ?_
          refine v_aload_n (pc := 38) dX12_odds_38 rfl rfl ?_
          refine v_aload_n (pc := 39) dX12_odds_39 rfl rfl ?_
          refine v_getH (pc := 40) fg_X12_26_12 dX12_odds_40 (li_55 hL) (lr_55_5 hL) ?_
          refine v_aload_n (pc := 43) dX12_odds_43 rfl rfl ?_
          refine v_iload (pc := 44) dX12_odds_44 rfl ?_
          refine v_ci (pc := 46) (v_rV (c_X12_lesserOf G l hL (by omega)) rfl kV_X12_313 (v_rcO (li_55 hL) rfl (by decide)) ⟨Nat.le_of_ble_eq_true rfl, Nat.le_of_ble_eq_true rfl⟩ ⟨Nat.le_of_ble_eq_true rfl, Nat.le_of_ble_eq_true rfl⟩ dX12_odds_46 (Nat.le_of_ble_eq_true rfl)) (fun x46 M46 h46 => ?_)
          obtain ⟨rfl, rfl⟩ := h46
          refine v_ialoadN (pc := 49) dX12_odds_49 (li_58 hL) ⟨by omega, by omega⟩ (MVm hw.1 (by omega)) ?_
          refine v_aload_n (pc := 50) dX12_odds_50 rfl rfl ?_
          refine v_iload (pc := 51) dX12_odds_51 rfl ?_
          refine v_ci (pc := 53) (v_rV (c_X12_greaterOf G l hL (by omega)) rfl kV_X12_205 (v_rcO (li_55 hL) rfl (by decide)) ⟨Nat.le_of_ble_eq_true rfl, Nat.le_of_ble_eq_true rfl⟩ ⟨Nat.le_of_ble_eq_true rfl, Nat.le_of_ble_eq_true rfl⟩ dX12_odds_53 (Nat.le_of_ble_eq_true rfl)) (fun x53 M53 h53 => ?_)
          obtain ⟨rfl, rfl⟩ := h53
          refine v_ci (pc := 56) (v_rV (c_X12_has G l hL (by omega)) rfl kV_X12_217 (v_rcO (li_55 hL) rfl (by decide)) ⟨Nat.le_of_ble_eq_true rfl, Nat.le_of_ble_eq_true rfl⟩ ⟨Nat.le_of_ble_eq_true rfl, Nat.le_of_ble_eq_true rfl⟩ dX12_odds_56 (Nat.le_of_ble_eq_true rfl)) (fun x56 M56 h56 => ?_)
          obtain ⟨rfl, rfl⟩ := h56
          refine v_if_eqP (pc := 59) (tgt := 75) dX12_odds_59 (by decide) (fun c59 => ?_) (fun c59 => ?_)
          · rw [w_bt (by omega), hbit] at c59
            refine v_iconst (pc := 75) (v := nI 0) dX12_odds_75 (by decide) ?_
            refine v_iaddN (pc := 76) dX12_odds_76 ?_
            refine v_istore_n (pc := 77) dX12_odds_77 rfl (by decide) rfl ?_
            refine v_iincN (pc := 78) (b := 1) dX12_odds_78 rfl (by decide) (by decide) rfl ?_
            refine v_goto (pc := 81) (tgt := 28) dX12_odds_81 (by decide) ?_
            first
              | (rw [if_pos (by rw [c59]; exact decide_eq_true (show w_tr b p i = 0 from c68))] at goon; exact goon _ (mJ_tr hj m3))
              | (rw [if_neg (by rw [Bool.not_eq_true, Bool.and_eq_false_iff]; exact Or.inr (decide_eq_false (show ¬ w_tr b p i = 0 from c68)))] at goon; exact goon _ (mJ_tr hj m3))
              | (rw [if_neg (by rw [Bool.not_eq_true, Bool.and_eq_false_iff]; exact Or.inl (Bool.not_eq_true _ ▸ c59))] at goon; exact goon _ hj)
          · rw [w_bt (by omega), hbit] at c59
            refine v_aload_n (pc := 62) dX12_odds_62 rfl rfl ?_
            refine v_iload (pc := 63) dX12_odds_63 rfl ?_
            refine v_ci (pc := 65) (v_rV (c_X12_amissBy G l hL hw (by omega)) rfl kV_X12_325 (v_rcO (li_55 hL) rfl (by decide)) ⟨Nat.le_of_ble_eq_true rfl, Nat.le_of_ble_eq_true rfl⟩ ⟨Nat.le_of_ble_eq_true rfl, Nat.le_of_ble_eq_true rfl⟩ dX12_odds_65 (Nat.le_of_ble_eq_true rfl)) (fun x65 M65 h65 => ?_)
            obtain ⟨rfl, I3, rfl, m3⟩ := h65
            refine v_if_neN (pc := 68) (tgt := 75) (by omega) dX12_odds_68 (by decide) (fun c68 => ?_) (fun c68 => ?_)
            · refine v_iconst (pc := 75) (v := nI 0) dX12_odds_75 (by decide) ?_
              refine v_iaddN (pc := 76) dX12_odds_76 ?_
              refine v_istore_n (pc := 77) dX12_odds_77 rfl (by decide) rfl ?_
              refine v_iincN (pc := 78) (b := 1) dX12_odds_78 rfl (by decide) (by decide) rfl ?_
              refine v_goto (pc := 81) (tgt := 28) dX12_odds_81 (by decide) ?_
              first
                | (rw [if_pos (by rw [c59]; exact decide_eq_true (show w_tr b p i = 0 from c68))] at goon; exact goon _ (mJ_tr hj m3))
                | (rw [if_neg (by rw [Bool.not_eq_true, Bool.and_eq_false_iff]; exact Or.inr (decide_eq_false (show ¬ w_tr b p i = 0 from c68)))] at goon; exact goon _ (mJ_tr hj m3))
                | (rw [if_neg (by rw [Bool.not_eq_true, Bool.and_eq_false_iff]; exact Or.inl (Bool.not_eq_true _ ▸ c59))] at goon; exact goon _ hj)
            · refine v_iconst (pc := 71) (v := nI 1) dX12_odds_71 (by decide) ?_
              refine v_goto (pc := 72) (tgt := 76) dX12_odds_72 (by decide) ?_
              refine v_iaddN (pc := 76) dX12_odds_76 ?_
              refine v_istore_n (pc := 77) dX12_odds_77 rfl (by decide) rfl ?_
              refine v_iincN (pc := 78) (b := 1) dX12_odds_78 rfl (by decide) (by decide) rfl ?_
              refine v_goto (pc := 81) (tgt := 28) dX12_odds_81 (by decide) ?_
              first
                | (rw [if_pos (by rw [c59]; exact decide_eq_true (show w_tr b p i = 0 from c68))] at goon; exact goon _ (mJ_tr hj m3))
                | (rw [if_neg (by rw [Bool.not_eq_true, Bool.and_eq_false_iff]; exact Or.inr (decide_eq_false (show ¬ w_tr b p i = 0 from c68)))] at goon; exact goon _ (mJ_tr hj m3))
                | (rw [if_neg (by rw [Bool.not_eq_true, Bool.and_eq_false_iff]; exact Or.inl (Bool.not_eq_true _ ▸ c59))] at goon; exact goon _ hj)
      exact key 0 (by omega) I mJ_rf
    · refine v_ldc2 (pc := 19) ld_X12_347 dX12_odds_19 ?_
      exact v_lret (pc := 22) dX12_odds_22 rfl (Nat.le_of_ble_eq_true rfl) (Nat.le_of_ble_eq_true rfl) ⟨by first | (simp only [s_odds, e2]; rfl) | (simp only [s_odds, e2]; rw [if_pos (by omega)]; rfl), I, rfl, mJ_rf⟩
abbrev rm_X12_mean : Room := { frames := 4, cells := 0, slots := 0, locals := 92 }
set_option maxRecDepth 20000 in
theorem c_X12_mean (G : v_G) (l : Launch) {K : Nat × v_TY} {I : Nat → Nat → Int32} {J : Nat → Nat → Int64} {R : Nat → Nat → Option Nat} (hL : Lay K R) {ww : Int32} {b : BS} {p : List (Nat × Nat × List Nat)} (h : MW I b 9 p) : v_M G l yX12_mean cX12_mean 4 (some .long) rm_X12_mean [.ref 55, .int ww] (K, I, J, R) (v_Ql G (fun (x : Int64) (M' : v_MM) => x = s_mean b p ww ∧ M' = (K, I, J, R))) := by
  refine v_of [some (.ref 55), some (.int ww), none, none] (by decide) (Nat.le_of_ble_eq_true rfl) (Nat.le_of_ble_eq_true rfl) rfl ?_
  have hn := VBn h.1
  have h15 := w_pr_lt (b_n b) (by omega)
  refine v_aload_n (pc := 0) dX12_mean_0 rfl rfl ?_
  refine v_iload_n (pc := 1) dX12_mean_1 rfl rfl ?_
  refine v_iconst (pc := 2) (v := nI 0) dX12_mean_2 (by decide) ?_
  refine v_iconst (pc := 3) (v := nI 1) dX12_mean_3 (by decide) ?_
  refine v_ci (pc := 4) (v_rV (c_X12_in G l hL) rfl kV_X12_197 (v_rcO (li_55 hL) rfl (by decide)) ⟨Nat.le_of_ble_eq_true rfl, Nat.le_of_ble_eq_true rfl⟩ ⟨Nat.le_of_ble_eq_true rfl, Nat.le_of_ble_eq_true rfl⟩ dX12_mean_4 (Nat.le_of_ble_eq_true rfl)) (fun x4 M4 h4 => ?_)
  obtain ⟨rfl, rfl⟩ := h4
  refine v_if_eqP (pc := 7) (tgt := 17) dX12_mean_7 (by decide) (fun c7 => ?_) (fun c7 => ?_)
  · have e2 : x_nat ww 2 = none := x_nat_n (fun z => c7 (v_in_iff (by decide) |>.mpr z))
    refine v_ldc2 (pc := 17) ld_X12_347 dX12_mean_17 ?_
    exact v_lret (pc := 20) dX12_mean_20 rfl (Nat.le_of_ble_eq_true rfl) (Nat.le_of_ble_eq_true rfl) ⟨by first | (simp only [s_mean, e2]; rfl) | (simp only [s_mean, e2]; rw [if_pos (by omega)]; rfl), rfl⟩
  · have hw2 := x_two (v_in_iff (by decide) |>.mp c7)
    have e2 : ∃ k, x_nat ww 2 = some k := by rcases hw2 with rfl | rfl; exact ⟨0, rfl⟩; exact ⟨1, rfl⟩
    obtain ⟨k2, e2⟩ := e2
    refine v_aload_n (pc := 10) dX12_mean_10 rfl rfl ?_
    refine v_ci (pc := 11) (v_rV (c_X12_pairs G l hL (MVn h.1) (by omega)) rfl kV_X12_201 (v_rcO (li_55 hL) rfl (by decide)) ⟨Nat.le_of_ble_eq_true rfl, Nat.le_of_ble_eq_true rfl⟩ ⟨Nat.le_of_ble_eq_true rfl, Nat.le_of_ble_eq_true rfl⟩ dX12_mean_11 (Nat.le_of_ble_eq_true rfl)) (fun x11 M11 h11 => ?_)
    obtain ⟨rfl, rfl⟩ := h11
    refine v_if_neN (pc := 14) (tgt := 21) (by omega) dX12_mean_14 (by decide) (fun c14 => ?_) (fun c14 => ?_)
    · refine v_iconst (pc := 21) (v := nI 0) dX12_mean_21 (by decide) ?_
      refine v_istore_n (pc := 22) dX12_mean_22 rfl (by decide) rfl ?_
      refine v_iconst (pc := 23) (v := nI 0) dX12_mean_23 (by decide) ?_
      refine v_istore_n (pc := 24) dX12_mean_24 rfl (by decide) rfl ?_
      refine v_down (w_pr (b_n b)) (P := fun i => v_V G l yX12_mean cX12_mean 4 (some .long) rm_X12_mean (v_Ql G (fun (x : Int64) (M' : v_MM) => x = s_mean b p ww ∧ M' = (K, I, J, R))) 0 0 25 [some (.ref 55), some (.int ww), some (.int (nI (sm (fun k => w_com (vw b 9 p) (w_l k) (w_g k)) i))), some (.int (nI i))] [] (K, I, J, R)) (fun i hi ih => ?_) 0 (by omega)
      refine v_iload_n (pc := 25) dX12_mean_25 rfl rfl ?_
      refine v_aload_n (pc := 26) dX12_mean_26 rfl rfl ?_
      refine v_ci (pc := 27) (v_rV (c_X12_pairs G l hL (MVn h.1) (by omega)) rfl kV_X12_201 (v_rcO (li_55 hL) rfl (by decide)) ⟨Nat.le_of_ble_eq_true rfl, Nat.le_of_ble_eq_true rfl⟩ ⟨Nat.le_of_ble_eq_true rfl, Nat.le_of_ble_eq_true rfl⟩ dX12_mean_27 (Nat.le_of_ble_eq_true rfl)) (fun x27 M27 h27 => ?_)
      obtain ⟨rfl, rfl⟩ := h27
      refine v_icmp_geN (pc := 30) (tgt := 56) ⟨by omega, by omega⟩ dX12_mean_30 (by decide) (fun c30 => ?_) (fun c30 => ?_)
      · have e : i = w_pr (b_n b) := by omega
        subst e
        refine v_aload_n (pc := 56) dX12_mean_56 rfl rfl ?_
        refine v_iload_n (pc := 57) dX12_mean_57 rfl rfl ?_
        refine v_aload_n (pc := 58) dX12_mean_58 rfl rfl ?_
        refine v_ci (pc := 59) (v_rV (c_X12_pairs G l hL (MVn h.1) (by omega)) rfl kV_X12_201 (v_rcO (li_55 hL) rfl (by decide)) ⟨Nat.le_of_ble_eq_true rfl, Nat.le_of_ble_eq_true rfl⟩ ⟨Nat.le_of_ble_eq_true rfl, Nat.le_of_ble_eq_true rfl⟩ dX12_mean_59 (Nat.le_of_ble_eq_true rfl)) (fun x59 M59 h59 => ?_)
        obtain ⟨rfl, rfl⟩ := h59
        refine v_iload_n (pc := 62) dX12_mean_62 rfl rfl ?_
        refine v_cl (pc := 63) (v_rV (c_X12_lowest G l hL ⟨by have := sm_le (f := (fun k => w_com (vw b 9 p) (w_l k) (w_g k))) (c := 18) (n := w_pr (b_n b)) (fun j _ => w_com_lt h.1.2.1 9 p _ _); omega, by omega⟩ (by omega)) rfl kV_X12_349 (v_rcO (li_55 hL) rfl (by decide)) ⟨Nat.le_of_ble_eq_true rfl, Nat.le_of_ble_eq_true rfl⟩ ⟨Nat.le_of_ble_eq_true rfl, Nat.le_of_ble_eq_true rfl⟩ dX12_mean_63 (Nat.le_of_ble_eq_true rfl)) (fun x63 M63 h63 => ?_)
        obtain ⟨rfl, rfl⟩ := h63
        exact v_lret (pc := 66) dX12_mean_66 rfl (Nat.le_of_ble_eq_true rfl) (Nat.le_of_ble_eq_true rfl) ⟨by simp only [s_mean, e2]; rw [if_neg (by omega)]; rfl, rfl⟩
      · have hg := w_g_in i (by omega)
        refine v_iload_n (pc := 33) dX12_mean_33 rfl rfl ?_
        refine v_aload_n (pc := 34) dX12_mean_34 rfl rfl ?_
        refine v_aload_n (pc := 35) dX12_mean_35 rfl rfl ?_
        refine v_iload_n (pc := 36) dX12_mean_36 rfl rfl ?_
        refine v_ci (pc := 37) (v_rV (c_X12_lesserOf G l hL (by omega)) rfl kV_X12_313 (v_rcO (li_55 hL) rfl (by decide)) ⟨Nat.le_of_ble_eq_true rfl, Nat.le_of_ble_eq_true rfl⟩ ⟨Nat.le_of_ble_eq_true rfl, Nat.le_of_ble_eq_true rfl⟩ dX12_mean_37 (Nat.le_of_ble_eq_true rfl)) (fun x37 M37 h37 => ?_)
        obtain ⟨rfl, rfl⟩ := h37
        refine v_aload_n (pc := 40) dX12_mean_40 rfl rfl ?_
        refine v_iload_n (pc := 41) dX12_mean_41 rfl rfl ?_
        refine v_ci (pc := 42) (v_rV (c_X12_greaterOf G l hL (by omega)) rfl kV_X12_205 (v_rcO (li_55 hL) rfl (by decide)) ⟨Nat.le_of_ble_eq_true rfl, Nat.le_of_ble_eq_true rfl⟩ ⟨Nat.le_of_ble_eq_true rfl, Nat.le_of_ble_eq_true rfl⟩ dX12_mean_42 (Nat.le_of_ble_eq_true rfl)) (fun x42 M42 h42 => ?_)
        obtain ⟨rfl, rfl⟩ := h42
        refine v_ci (pc := 45) (v_rV (c_X12_commonOf G l hL (q := p) h.1 ⟨by omega, by omega⟩ ⟨by omega, by omega⟩) rfl kV_X12_301 (v_rcO (li_55 hL) rfl (by decide)) ⟨Nat.le_of_ble_eq_true rfl, Nat.le_of_ble_eq_true rfl⟩ ⟨Nat.le_of_ble_eq_true rfl, Nat.le_of_ble_eq_true rfl⟩ dX12_mean_45 (Nat.le_of_ble_eq_true rfl)) (fun x45 M45 h45 => ?_)
        obtain ⟨rfl, rfl⟩ := h45
        refine v_iaddN (pc := 48) dX12_mean_48 ?_
        refine v_istore_n (pc := 49) dX12_mean_49 rfl (by decide) rfl ?_
        refine v_iincN (pc := 50) (b := 1) dX12_mean_50 rfl (by decide) (by decide) rfl ?_
        refine v_goto (pc := 53) (tgt := 25) dX12_mean_53 (by decide) ?_
        exact ih (i + 1) (by omega) (by omega)
    · refine v_ldc2 (pc := 17) ld_X12_347 dX12_mean_17 ?_
      exact v_lret (pc := 20) dX12_mean_20 rfl (Nat.le_of_ble_eq_true rfl) (Nat.le_of_ble_eq_true rfl) ⟨by first | (simp only [s_mean, e2]; rfl) | (simp only [s_mean, e2]; rw [if_pos (by omega)]; rfl), rfl⟩
abbrev rm_X12_isTold : Room := { frames := 7, cells := 0, slots := 0, locals := 168 }
set_option maxRecDepth 20000 in
theorem c_X12_isTold (G : v_G) (l : Launch) {K : Nat × v_TY} {I : Nat → Nat → Int32} {J : Nat → Nat → Int64} {R : Nat → Nat → Option Nat} (hL : Lay K R) {b : BS} {p : List (Nat × Nat × List Nat)} (h : MW I b 9 p) {cm : Nat → Nat} (hc : ∀ i, i < 7 → I 60 i = nI (cm i)) (hc5 : ∀ i, cm i ≤ 5) : v_M G l yX12_isTold cX12_isTold 3 (some .boolean) rm_X12_isTold [.ref 55] (K, I, J, R) (v_Qi G (fun (x : Int32) (M' : v_MM) => x = v_p (w_told (vw b 9 p) cm (b_n b) = true) ∧ ∃ I', M' = (K, I', J, R) ∧ mJ I I')) := by
  refine v_of [some (.ref 55), none, none] (by decide) (Nat.le_of_ble_eq_true rfl) (Nat.le_of_ble_eq_true rfl) rfl ?_
  refine v_aload_n (pc := 0) dX12_isTold_0 rfl rfl ?_
  refine v_ci (pc := 1) (v_rV (c_X12_layAmiss G l hL h) rfl kV_X12_307 (v_rcO (li_55 hL) rfl (by decide)) ⟨Nat.le_of_ble_eq_true rfl, Nat.le_of_ble_eq_true rfl⟩ ⟨Nat.le_of_ble_eq_true rfl, Nat.le_of_ble_eq_true rfl⟩ dX12_isTold_1 (Nat.le_of_ble_eq_true rfl)) (fun x1 M1 h1 => ?_)
  obtain ⟨rfl, I2, rfl, m2⟩ := h1
  have hw := MW_J h m2.1
  have hn := VBn h.1
  have h15 := w_pr_lt (b_n b) (by omega)
  refine v_istore_n (pc := 4) dX12_isTold_4 rfl (by decide) rfl ?_
  refine v_iconst (pc := 5) (v := nI 0) dX12_isTold_5 (by decide) ?_
  refine v_istore_n (pc := 6) dX12_isTold_6 rfl (by decide) rfl ?_
  refine v_down (b_n b) (P := fun i => al (fun q => decide (w_cp (vw b 9 p) (w_pr (b_n b)) q = cm q)) i = true → v_V G l yX12_isTold cX12_isTold 3 (some .boolean) rm_X12_isTold (v_Qi G (fun (x : Int32) (M' : v_MM) => x = v_p (w_told (vw b 9 p) cm (b_n b) = true) ∧ ∃ I', M' = (K, I', J, R) ∧ mJ I I')) 0 0 7 [some (.ref 55), some (.int (nI (w_many (vw b 9 p)))), some (.int (nI i))] [] (K, I2, J, R)) (fun i hi ih => ?_) 0 (by omega) rfl
  intro ha
  refine v_iload_n (pc := 7) dX12_isTold_7 rfl rfl ?_
  refine v_aload_n (pc := 8) dX12_isTold_8 rfl rfl ?_
  refine v_getV (pc := 9) fg_X12_7_12 dX12_isTold_9 (li_55 hL) (MVn hw.1) ?_
  refine v_icmp_geN (pc := 12) (tgt := 38) ⟨by omega, by omega⟩ dX12_isTold_12 (by decide) (fun c12 => ?_) (fun c12 => ?_)
  · refine v_iconst (pc := 38) (v := nI 1) dX12_isTold_38 (by decide) ?_
    exact v_iret (pc := 39) dX12_isTold_39 rfl rfl (Nat.le_of_ble_eq_true rfl) (Nat.le_of_ble_eq_true rfl) ⟨by first | exact v_po (by rw [show i = b_n b by omega] at ha; exact ha) | exact v_pz (by rw [w_told, al_f (i := i) (by exact decide_eq_false c27) (by omega)]; decide), I2, rfl, m2.1⟩
  · have hcl : w_cp (vw b 9 p) (w_pr (b_n b)) i ≤ w_pr (b_n b) := cnt_le _ _
    have h5 := hc5 i
    refine v_aload_n (pc := 15) dX12_isTold_15 rfl rfl ?_
    refine v_getH (pc := 16) fg_X12_96_12 dX12_isTold_16 (li_55 hL) (lr_55_28 hL) ?_
    refine v_iload_n (pc := 19) dX12_isTold_19 rfl rfl ?_
    refine v_ialoadN (pc := 20) dX12_isTold_20 (li_71 hL) ⟨by omega, by omega⟩ (m2.2.2.2 i (by omega)) ?_
    refine v_aload_n (pc := 21) dX12_isTold_21 rfl rfl ?_
    refine v_getH (pc := 22) fg_X12_32_12 dX12_isTold_22 (li_55 hL) (lr_55_7 hL) ?_
    refine v_iload_n (pc := 25) dX12_isTold_25 rfl rfl ?_
    refine v_ialoadN (pc := 26) dX12_isTold_26 (li_60 hL) ⟨by omega, by omega⟩ ((mJ_h m2.1 (by decide)).trans (hc i (by omega))) ?_
    refine v_icmp_eqN (pc := 27) (tgt := 32) ⟨by omega, by omega⟩ dX12_isTold_27 (by decide) (fun c27 => ?_) (fun c27 => ?_)
    · refine v_iincN (pc := 32) (b := 1) dX12_isTold_32 rfl (by decide) (by decide) rfl ?_
      refine v_goto (pc := 35) (tgt := 7) dX12_isTold_35 (by decide) ?_
      exact ih (i + 1) (by omega) (by omega) (by show (al _ i && _) = true; rw [ha]; exact decide_eq_true c27)
    · refine v_iconst (pc := 30) (v := nI 0) dX12_isTold_30 (by decide) ?_
      exact v_iret (pc := 31) dX12_isTold_31 rfl rfl (Nat.le_of_ble_eq_true rfl) (Nat.le_of_ble_eq_true rfl) ⟨by first | exact v_po (by rw [show i = b_n b by omega] at ha; exact ha) | exact v_pz (by rw [w_told, al_f (i := i) (by exact decide_eq_false c27) (by omega)]; decide), I2, rfl, m2.1⟩
abbrev rm_X12_made : Room := { frames := 8, cells := 0, slots := 0, locals := 190 }
set_option maxRecDepth 20000 in
theorem c_X12_made (G : v_G) (l : Launch) {K : Nat × v_TY} {I : Nat → Nat → Int32} {J : Nat → Nat → Int64} {R : Nat → Nat → Option Nat} (hL : Lay K R) {b : BS} {p : List (Nat × Nat × List Nat)} (h : MW I b 9 p) {cm : Nat → Nat} (hc : ∀ i, i < 7 → I 60 i = nI (cm i)) (hc5 : ∀ i, cm i ≤ 5) : v_M G l yX12_made cX12_made 3 (some .int) rm_X12_made [.ref 55] (K, I, J, R) (v_Qi G (fun (x : Int32) (M' : v_MM) => x = s_made b p cm ∧ ∃ I', M' = (K, I', J, R) ∧ mJ I I')) := by
  refine v_of [some (.ref 55), none, none] (by decide) (Nat.le_of_ble_eq_true rfl) (Nat.le_of_ble_eq_true rfl) rfl ?_
  refine v_aload_n (pc := 0) dX12_made_0 rfl rfl ?_
  refine v_ci (pc := 1) (v_rV (c_X12_isTold G l hL h hc hc5) rfl kV_X12_338 (v_rcO (li_55 hL) rfl (by decide)) ⟨Nat.le_of_ble_eq_true rfl, Nat.le_of_ble_eq_true rfl⟩ ⟨Nat.le_of_ble_eq_true rfl, Nat.le_of_ble_eq_true rfl⟩ dX12_made_1 (Nat.le_of_ble_eq_true rfl)) (fun x1 M1 h1 => ?_)
  obtain ⟨rfl, I2, rfl, m2⟩ := h1
  have hn := VBn h.1
  have h15 := w_pr_lt (b_n b) (by omega)
  refine v_if_eqP (pc := 4) (tgt := 10) dX12_made_4 (by decide) (fun c4 => ?_) (fun c4 => ?_)
  · refine v_bipush (pc := 10) (v := -5) dX12_made_10 (by decide) ?_
    refine v_istore_n (pc := 12) dX12_made_12 rfl (by decide) rfl ?_
    refine v_iconst (pc := 13) (v := nI 0) dX12_made_13 (by decide) ?_
    refine v_istore_n (pc := 14) dX12_made_14 rfl (by decide) rfl ?_
    have fin : ∀ (k i : Nat) (Ij : Nat → Nat → Int32), k < 15 → i ≤ 15 → mJ I Ij → s_made b p cm = nI k → v_V G l yX12_made cX12_made 3 (some .int) rm_X12_made (v_Qi G (fun (x : Int32) (M' : v_MM) => x = s_made b p cm ∧ ∃ I', M' = (K, I', J, R) ∧ mJ I I')) 0 0 15 [some (.ref 55), some (.int (nI k)), some (.int (nI i))] [] (K, Ij, J, R) := by
      intro k i Ij hk hi hj he
      have hw := MW_J h hj
      refine v_iload_n (pc := 15) dX12_made_15 rfl rfl ?_
      refine v_aload_n (pc := 16) dX12_made_16 rfl rfl ?_
      refine v_ci (pc := 17) (v_rV (c_X12_pairs G l hL (MVn hw.1) (by omega)) rfl kV_X12_201 (v_rcO (li_55 hL) rfl (by decide)) ⟨Nat.le_of_ble_eq_true rfl, Nat.le_of_ble_eq_true rfl⟩ ⟨Nat.le_of_ble_eq_true rfl, Nat.le_of_ble_eq_true rfl⟩ dX12_made_17 (Nat.le_of_ble_eq_true rfl)) (fun x17 M17 h17 => ?_)
      obtain ⟨rfl, rfl⟩ := h17
      refine v_icmp_geN (pc := 20) (tgt := 57) ⟨by omega, by omega⟩ dX12_made_20 (by decide) (fun c20 => ?_) (fun c20 => ?_)
      · refine v_iload_n (pc := 57) dX12_made_57 rfl rfl ?_
        exact v_iret (pc := 58) dX12_made_58 rfl rfl (Nat.le_of_ble_eq_true rfl) (Nat.le_of_ble_eq_true rfl) ⟨he.symm, Ij, rfl, hj⟩
      · refine v_iload_n (pc := 23) dX12_made_23 rfl rfl ?_
        refine v_if_geN (pc := 24) (tgt := 57) (by omega) dX12_made_24 (by decide) ?_
        refine v_iload_n (pc := 57) dX12_made_57 rfl rfl ?_
        exact v_iret (pc := 58) dX12_made_58 rfl rfl (Nat.le_of_ble_eq_true rfl) (Nat.le_of_ble_eq_true rfl) ⟨he.symm, Ij, rfl, hj⟩
    have key : ∀ i, i ≤ w_pr (b_n b) → ∀ (Ii : Nat → Nat → Int32), mJ I Ii → w_ff (w_mk b p cm) i = none → v_V G l yX12_made cX12_made 3 (some .int) rm_X12_made (v_Qi G (fun (x : Int32) (M' : v_MM) => x = s_made b p cm ∧ ∃ I', M' = (K, I', J, R) ∧ mJ I I')) 0 0 15 [some (.ref 55), some (.int (-5)), some (.int (nI i))] [] (K, Ii, J, R) := by
      refine v_down (w_pr (b_n b)) (fun i hi ih => ?_)
      intro Ii hj hf
      have hw := MW_J h hj
      refine v_iload_n (pc := 15) dX12_made_15 rfl rfl ?_
      refine v_aload_n (pc := 16) dX12_made_16 rfl rfl ?_
      refine v_ci (pc := 17) (v_rV (c_X12_pairs G l hL (MVn hw.1) (by omega)) rfl kV_X12_201 (v_rcO (li_55 hL) rfl (by decide)) ⟨Nat.le_of_ble_eq_true rfl, Nat.le_of_ble_eq_true rfl⟩ ⟨Nat.le_of_ble_eq_true rfl, Nat.le_of_ble_eq_true rfl⟩ dX12_made_17 (Nat.le_of_ble_eq_true rfl)) (fun x17 M17 h17 => ?_)
      obtain ⟨rfl, rfl⟩ := h17
      refine v_icmp_geN (pc := 20) (tgt := 57) ⟨by omega, by omega⟩ dX12_made_20 (by decide) (fun c20 => ?_) (fun c20 => ?_)
      · have e : i = w_pr (b_n b) := by omega
        subst e
        refine v_iload_n (pc := 57) dX12_made_57 rfl rfl ?_
        exact v_iret (pc := 58) dX12_made_58 rfl rfl (Nat.le_of_ble_eq_true rfl) (Nat.le_of_ble_eq_true rfl) ⟨by rw [s_made, if_neg c4, hf]; rfl, Ii, rfl, hj⟩
      · refine v_iload_n (pc := 23) dX12_made_23 rfl rfl ?_
        refine v_if_ge (pc := 24) (tgt := 57) dX12_made_24 (by decide) (fun c24 => ?_) (fun c24 => ?_)
        · exact absurd (show ¬ (0 : Int32) ≤ -5 by decide) (Classical.not_not.mpr c24)
        · have hmk : w_mk b p cm i = if w_told (vw (b_fp b i) 9 p) cm (b_n (b_fp b i)) = true then some (nI i) else none := rfl
          refine v_aload_n (pc := 27) dX12_made_27 rfl rfl ?_
          refine v_iload_n (pc := 28) dX12_made_28 rfl rfl ?_
          refine v_cv (pc := 29) (v_rV (c_X12_turn G l hL (b := b) (k := i) (fun q hq => MVm hw.1 hq) (by omega)) rfl kV_X12_322 (v_rcO (li_55 hL) rfl (by decide)) ⟨Nat.le_of_ble_eq_true rfl, Nat.le_of_ble_eq_true rfl⟩ ⟨Nat.le_of_ble_eq_true rfl, Nat.le_of_ble_eq_true rfl⟩ dX12_made_29 (Nat.le_of_ble_eq_true rfl)) (fun M29 h29 => ?_)
          obtain ⟨I1, rfl, m1⟩ := h29
          have hw1 : MW I1 (b_fp b i) 9 p := MW_K hw m1 ⟨rfl, rfl, rfl, rfl, rfl⟩ (VB_fp h.1.2.1 (by omega))
          have hc1 : ∀ q, q < 7 → I1 60 q = nI (cm q) := fun q hq => (m1.1 _ _ (by decide)).trans ((mJ_h hj (by decide)).trans (hc q hq))
          refine v_aload_n (pc := 32) dX12_made_32 rfl rfl ?_
          refine v_ci (pc := 33) (v_rV (c_X12_isTold G l hL hw1 hc1 hc5) rfl kV_X12_338 (v_rcO (li_55 hL) rfl (by decide)) ⟨Nat.le_of_ble_eq_true rfl, Nat.le_of_ble_eq_true rfl⟩ ⟨Nat.le_of_ble_eq_true rfl, Nat.le_of_ble_eq_true rfl⟩ dX12_made_33 (Nat.le_of_ble_eq_true rfl)) (fun x33 M33 h33 => ?_)
          obtain ⟨rfl, I3, rfl, m33⟩ := h33
          refine v_if_eqP (pc := 36) (tgt := 43) dX12_made_36 (by decide) (fun c36 => ?_) (fun c36 => ?_)
          · rw [if_neg c36] at hmk
            refine v_bipush (pc := 43) (v := -5) dX12_made_43 (by decide) ?_
            refine v_istore_n (pc := 45) dX12_made_45 rfl (by decide) rfl ?_
            refine v_aload_n (pc := 46) dX12_made_46 rfl rfl ?_
            refine v_iload_n (pc := 47) dX12_made_47 rfl rfl ?_
            refine v_cv (pc := 48) (v_rV (c_X12_turn G l hL (b := b_fp b i) (k := i) (fun q hq => MVm (MW_J hw1 m33).1 hq) (by omega)) rfl kV_X12_322 (v_rcO (li_55 hL) rfl (by decide)) ⟨Nat.le_of_ble_eq_true rfl, Nat.le_of_ble_eq_true rfl⟩ ⟨Nat.le_of_ble_eq_true rfl, Nat.le_of_ble_eq_true rfl⟩ dX12_made_48 (Nat.le_of_ble_eq_true rfl)) (fun M48 h48 => ?_)
            obtain ⟨I4, rfl, m4⟩ := h48
            have m5 : mJ I I4 := mJ_tr hj (mK_back (b := b) (fun q hq => MVm hw.1 hq) m1 m33 ⟨m4.1, fun q hq => (m4.2.1 q hq).trans (by rw [b_fp, b_fp, b_flip2 b (by have := w_g_in i (by omega); omega)]), m4.2.2⟩)
            refine v_iincN (pc := 51) (b := 1) dX12_made_51 rfl (by decide) (by decide) rfl ?_
            refine v_goto (pc := 54) (tgt := 15) dX12_made_54 (by decide) ?_
            first
              | exact ih (i + 1) (by omega) (by omega) _ m5 (w_ff_n hf hmk)
              | exact fin i (i + 1) _ (by omega) (by omega) m5 (by rw [s_made, if_neg c4, w_ff_s hf hmk (by omega)]; rfl)
          · rw [if_pos c36] at hmk
            refine v_iload_n (pc := 39) dX12_made_39 rfl rfl ?_
            refine v_goto (pc := 40) (tgt := 45) dX12_made_40 (by decide) ?_
            refine v_istore_n (pc := 45) dX12_made_45 rfl (by decide) rfl ?_
            refine v_aload_n (pc := 46) dX12_made_46 rfl rfl ?_
            refine v_iload_n (pc := 47) dX12_made_47 rfl rfl ?_
            refine v_cv (pc := 48) (v_rV (c_X12_turn G l hL (b := b_fp b i) (k := i) (fun q hq => MVm (MW_J hw1 m33).1 hq) (by omega)) rfl kV_X12_322 (v_rcO (li_55 hL) rfl (by decide)) ⟨Nat.le_of_ble_eq_true rfl, Nat.le_of_ble_eq_true rfl⟩ ⟨Nat.le_of_ble_eq_true rfl, Nat.le_of_ble_eq_true rfl⟩ dX12_made_48 (Nat.le_of_ble_eq_true rfl)) (fun M48 h48 => ?_)
            obtain ⟨I4, rfl, m4⟩ := h48
            have m5 : mJ I I4 := mJ_tr hj (mK_back (b := b) (fun q hq => MVm hw.1 hq) m1 m33 ⟨m4.1, fun q hq => (m4.2.1 q hq).trans (by rw [b_fp, b_fp, b_flip2 b (by have := w_g_in i (by omega); omega)]), m4.2.2⟩)
            refine v_iincN (pc := 51) (b := 1) dX12_made_51 rfl (by decide) (by decide) rfl ?_
            refine v_goto (pc := 54) (tgt := 15) dX12_made_54 (by decide) ?_
            first
              | exact ih (i + 1) (by omega) (by omega) _ m5 (w_ff_n hf hmk)
              | exact fin i (i + 1) _ (by omega) (by omega) m5 (by rw [s_made, if_neg c4, w_ff_s hf hmk (by omega)]; rfl)
    exact key 0 (by omega) I2 m2 rfl
  · refine v_bipush (pc := 7) (v := nI 100) dX12_made_7 (by decide) ?_
    exact v_iret (pc := 9) dX12_made_9 rfl rfl (Nat.le_of_ble_eq_true rfl) (Nat.le_of_ble_eq_true rfl) ⟨by rw [s_made, if_pos c4]; rfl, I2, rfl, m2⟩
abbrev rm_X12_far : Room := { frames := 2, cells := 0, slots := 0, locals := 44 }
set_option maxRecDepth 20000 in
theorem c_X12_far (G : v_G) (l : Launch) {K : Nat × v_TY} {I : Nat → Nat → Int32} {J : Nat → Nat → Int64} {R : Nat → Nat → Option Nat} (hL : Lay K R) {aa cc : Int32} {b : BS} {g : Nat} (h : MV I b g) : v_M G l yX12_far cX12_far 7 (some .int) rm_X12_far [.ref 55, .int aa, .int cc] (K, I, J, R) (v_Qi G (fun (x : Int32) (M' : v_MM) => x = s_far (b_m b) (b_n b) aa cc ∧ M' = (K, I, J, R))) := by
  refine v_of [some (.ref 55), some (.int aa), some (.int cc), none, none, none, none] (by decide) (Nat.le_of_ble_eq_true rfl) (Nat.le_of_ble_eq_true rfl) rfl ?_
  have hn := VBn h
  refine v_aload_n (pc := 0) dX12_far_0 rfl rfl ?_
  refine v_iload_n (pc := 1) dX12_far_1 rfl rfl ?_
  refine v_ci (pc := 2) (v_rV (c_X12_isPerson G l hL (MVn h) (by have := VBn h; omega)) rfl kV_X12_213 (v_rcO (li_55 hL) rfl (by decide)) ⟨Nat.le_of_ble_eq_true rfl, Nat.le_of_ble_eq_true rfl⟩ ⟨Nat.le_of_ble_eq_true rfl, Nat.le_of_ble_eq_true rfl⟩ dX12_far_2 (Nat.le_of_ble_eq_true rfl)) (fun x2 M2 h2 => ?_)
  obtain ⟨rfl, rfl⟩ := h2
  refine v_if_eqP (pc := 5) (tgt := 16) dX12_far_5 (by decide) (fun c5 => ?_) (fun c5 => ?_)
  · have e1 := x_nat_n c5
    refine v_iconst (pc := 16) (v := -1) dX12_far_16 (by decide) ?_
    exact v_iret (pc := 17) dX12_far_17 rfl rfl (Nat.le_of_ble_eq_true rfl) (Nat.le_of_ble_eq_true rfl) ⟨by first | (simp only [s_far, e1]; done) | (simp only [s_far, e1, e2]; done), rfl⟩
  · obtain ⟨a, ha, ea, e1⟩ := x_nat_i c5 (by omega)
    refine v_aload_n (pc := 8) dX12_far_8 rfl rfl ?_
    refine v_iload_n (pc := 9) dX12_far_9 rfl rfl ?_
    refine v_ci (pc := 10) (v_rV (c_X12_isPerson G l hL (MVn h) (by have := VBn h; omega)) rfl kV_X12_213 (v_rcO (li_55 hL) rfl (by decide)) ⟨Nat.le_of_ble_eq_true rfl, Nat.le_of_ble_eq_true rfl⟩ ⟨Nat.le_of_ble_eq_true rfl, Nat.le_of_ble_eq_true rfl⟩ dX12_far_10 (Nat.le_of_ble_eq_true rfl)) (fun x10 M10 h10 => ?_)
    obtain ⟨rfl, rfl⟩ := h10
    refine v_if_neP (pc := 13) (tgt := 18) dX12_far_13 (by decide) (fun c13 => ?_) (fun c13 => ?_)
    · obtain ⟨c, hc, ec, e2⟩ := x_nat_i c13 (by omega)
      subst ea; subst ec
      have h64 : 2 ^ a < 64 := (show ∀ q, q < 6 → 2 ^ q < 64 by decide) a (by omega)
      refine v_iconst (pc := 18) (v := nI 1) dX12_far_18 (by decide) ?_
      refine v_iload_n (pc := 19) dX12_far_19 rfl rfl ?_
      refine v_ishl (pc := 20) dX12_far_20 ?_
      refine v_top (v_shl1 a (by omega)) ?_
      refine v_istore_n (pc := 21) dX12_far_21 rfl (by decide) rfl ?_
      refine v_iconst (pc := 22) (v := nI 0) dX12_far_22 (by decide) ?_
      refine v_istore (pc := 23) dX12_far_23 (by decide) rfl ?_
      refine v_lvs (lv' := [some (.ref 55), some (.int (nI a)), some (.int (nI c)), some (.int (nI (w_gs (b_m b) (b_n b) (2 ^ a) 0))), some (.int (nI 0)), none, none]) rfl ?_
      have key : ∀ k, k ≤ 7 → ∀ z5 z6 : Option Value, w_ff (w_fr (b_m b) (b_n b) (2 ^ a) c) k = none → v_V G l yX12_far cX12_far 7 (some .int) rm_X12_far (v_Qi G (fun (x : Int32) (M' : v_MM) => x = s_far (b_m b) (b_n b) (nI a) (nI c) ∧ M' = (K, I, J, R))) 0 0 25 [some (.ref 55), some (.int (nI a)), some (.int (nI c)), some (.int (nI (w_gs (b_m b) (b_n b) (2 ^ a) k))), some (.int (nI k)), z5, z6] [] (K, I, J, R) := by
        refine v_down 7 (fun k hk ih => ?_)
        intro z5 z6 hf
        have hS := w_gs_lt (n := b_n b) (m := b_m b) (fun q => VBm h q) h64 k
        refine v_iload (pc := 25) dX12_far_25 rfl ?_
        refine v_bipush (pc := 27) (v := nI 7) dX12_far_27 (by decide) ?_
        refine v_icmp_geN (pc := 29) (tgt := 100) ⟨by omega, by omega⟩ dX12_far_29 (by decide) (fun c29 => ?_) (fun c29 => ?_)
        · have e : k = 7 := by omega
          subst e
          refine v_bipush (pc := 100) (v := -5) dX12_far_100 (by decide) ?_
          exact v_iret (pc := 102) dX12_far_102 rfl rfl (Nat.le_of_ble_eq_true rfl) (Nat.le_of_ble_eq_true rfl) ⟨by first | (simp only [s_far, e1, e2]; rw [hf]; rfl) | (simp only [s_far, e1, e2]; rw [w_ff_s hf (x := nI k) (if_pos c38) (by omega)]; rfl), rfl⟩
        · refine v_aload_n (pc := 32) dX12_far_32 rfl rfl ?_
          refine v_iload_n (pc := 33) dX12_far_33 rfl rfl ?_
          refine v_iload_n (pc := 34) dX12_far_34 rfl rfl ?_
          refine v_ci (pc := 35) (v_rV (c_X12_has G l hL (by omega)) rfl kV_X12_217 (v_rcO (li_55 hL) rfl (by decide)) ⟨Nat.le_of_ble_eq_true rfl, Nat.le_of_ble_eq_true rfl⟩ ⟨Nat.le_of_ble_eq_true rfl, Nat.le_of_ble_eq_true rfl⟩ dX12_far_35 (Nat.le_of_ble_eq_true rfl)) (fun x35 M35 h35 => ?_)
          obtain ⟨rfl, rfl⟩ := h35
          refine v_if_eqP (pc := 38) (tgt := 44) dX12_far_38 (by decide) (fun c38 => ?_) (fun c38 => ?_)
          · rw [w_bt (by omega)] at c38
            refine v_iload_n (pc := 44) dX12_far_44 rfl rfl ?_
            refine v_istore (pc := 45) dX12_far_45 (by decide) rfl ?_
            refine v_iconst (pc := 47) (v := nI 0) dX12_far_47 (by decide) ?_
            refine v_istore (pc := 48) dX12_far_48 (by decide) rfl ?_
            have in2 : ∀ j, j ≤ b_n b → v_V G l yX12_far cX12_far 7 (some .int) rm_X12_far (v_Qi G (fun (x : Int32) (M' : v_MM) => x = s_far (b_m b) (b_n b) (nI a) (nI c) ∧ M' = (K, I, J, R))) 0 0 50 [some (.ref 55), some (.int (nI a)), some (.int (nI c)), some (.int (nI (w_gs (b_m b) (b_n b) (2 ^ a) k))), some (.int (nI k)), some (.int (nI (w_grow (b_m b) (w_gs (b_m b) (b_n b) (2 ^ a) k) j))), some (.int (nI j))] [] (K, I, J, R) := by
              refine v_down (b_n b) (fun j hj ih2 => ?_)
              refine v_iload (pc := 50) dX12_far_50 rfl ?_
              refine v_aload_n (pc := 52) dX12_far_52 rfl rfl ?_
              refine v_getV (pc := 53) fg_X12_7_12 dX12_far_53 (li_55 hL) (MVn h) ?_
              refine v_icmp_geN (pc := 56) (tgt := 91) ⟨by omega, by omega⟩ dX12_far_56 (by decide) (fun c56 => ?_) (fun c56 => ?_)
              · have e : j = b_n b := by omega
                subst e
                refine v_iload (pc := 91) dX12_far_91 rfl ?_
                refine v_istore_n (pc := 93) dX12_far_93 rfl (by decide) rfl ?_
                refine v_iincN (pc := 94) (b := 1) dX12_far_94 rfl (by decide) (by decide) rfl ?_
                refine v_goto (pc := 97) (tgt := 25) dX12_far_97 (by decide) ?_
                exact ih (k + 1) (by omega) (by omega) _ _ (w_ff_n hf (if_neg c38))
              · refine v_iload (pc := 59) dX12_far_59 rfl ?_
                refine v_aload_n (pc := 61) dX12_far_61 rfl rfl ?_
                refine v_iload_n (pc := 62) dX12_far_62 rfl rfl ?_
                refine v_iload (pc := 63) dX12_far_63 rfl ?_
                refine v_ci (pc := 65) (v_rV (c_X12_has G l hL (by omega)) rfl kV_X12_217 (v_rcO (li_55 hL) rfl (by decide)) ⟨Nat.le_of_ble_eq_true rfl, Nat.le_of_ble_eq_true rfl⟩ ⟨Nat.le_of_ble_eq_true rfl, Nat.le_of_ble_eq_true rfl⟩ dX12_far_65 (Nat.le_of_ble_eq_true rfl)) (fun x65 M65 h65 => ?_)
                obtain ⟨rfl, rfl⟩ := h65
                refine v_if_eqP (pc := 68) (tgt := 81) dX12_far_68 (by decide) (fun c68 => ?_) (fun c68 => ?_)
                · rw [w_bt (by omega)] at c68
                  have es : w_grow (b_m b) (w_gs (b_m b) (b_n b) (2 ^ a) k) (j + 1) = (w_grow (b_m b) (w_gs (b_m b) (b_n b) (2 ^ a) k) j) := if_neg c68
                  refine v_iconst (pc := 81) (v := nI 0) dX12_far_81 (by decide) ?_
                  refine v_ior (pc := 82) dX12_far_82 ?_
                  refine v_top (by first | exact (nx_or _ _).trans (congrArg nI (Nat.or_zero _)) | exact nx_or _ _) ?_
                  refine v_istore (pc := 83) dX12_far_83 (by decide) rfl ?_
                  refine v_iincN (pc := 85) (b := 1) dX12_far_85 rfl (by decide) (by decide) rfl ?_
                  refine v_goto (pc := 88) (tgt := 50) dX12_far_88 (by decide) ?_
                  have goon := ih2 (j + 1) (by omega) (by omega)
                  rw [es] at goon
                  exact goon
                · rw [w_bt (by omega)] at c68
                  have es : w_grow (b_m b) (w_gs (b_m b) (b_n b) (2 ^ a) k) (j + 1) = (w_grow (b_m b) (w_gs (b_m b) (b_n b) (2 ^ a) k) j) ||| b_m b j := if_pos c68
                  refine v_aload_n (pc := 71) dX12_far_71 rfl rfl ?_
                  refine v_getH (pc := 72) fg_X12_26_12 dX12_far_72 (li_55 hL) (lr_55_5 hL) ?_
                  refine v_iload (pc := 75) dX12_far_75 rfl ?_
                  refine v_ialoadN (pc := 77) dX12_far_77 (li_58 hL) ⟨by omega, by omega⟩ (MVm h (by omega)) ?_
                  refine v_goto (pc := 78) (tgt := 82) dX12_far_78 (by decide) ?_
                  refine v_ior (pc := 82) dX12_far_82 ?_
                  refine v_top (by first | exact (nx_or _ _).trans (congrArg nI (Nat.or_zero _)) | exact nx_or _ _) ?_
                  refine v_istore (pc := 83) dX12_far_83 (by decide) rfl ?_
                  refine v_iincN (pc := 85) (b := 1) dX12_far_85 rfl (by decide) (by decide) rfl ?_
                  refine v_goto (pc := 88) (tgt := 50) dX12_far_88 (by decide) ?_
                  have goon := ih2 (j + 1) (by omega) (by omega)
                  rw [es] at goon
                  exact goon
            exact in2 0 (by omega)
          · rw [w_bt (by omega)] at c38
            refine v_iload (pc := 41) dX12_far_41 rfl ?_
            exact v_iret (pc := 43) dX12_far_43 rfl rfl (Nat.le_of_ble_eq_true rfl) (Nat.le_of_ble_eq_true rfl) ⟨by first | (simp only [s_far, e1, e2]; rw [hf]; rfl) | (simp only [s_far, e1, e2]; rw [w_ff_s hf (x := nI k) (if_pos c38) (by omega)]; rfl), rfl⟩
      exact key 0 (by omega) none none rfl
    · have e2 := x_nat_n c13
      refine v_iconst (pc := 16) (v := -1) dX12_far_16 (by decide) ?_
      exact v_iret (pc := 17) dX12_far_17 rfl rfl (Nat.le_of_ble_eq_true rfl) (Nat.le_of_ble_eq_true rfl) ⟨by first | (simp only [s_far, e1]; done) | (simp only [s_far, e1, e2]; done), rfl⟩
