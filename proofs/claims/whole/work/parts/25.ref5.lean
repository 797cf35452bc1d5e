/-! THE REFERENCE: wanted, price, by how much, which are amiss -/
theorem w_com_lt {b : BS} (h : VB b) (g : Nat) (p : List (Nat × Nat × List Nat)) (a c : Nat) : w_com (vw b g p) a c ≤ 18 := by
  have h1 : w_com (vw b g p) a c ≤ 3 * b_n b := sm_le (fun i _ => by
    have hr := h.2.2.2.2.2.1 (4 * i + b_y b % 4)
    have hw : w_worth (vw b g p) i (w_a (vw b g p) a c) ≤ 3 := by
      unfold w_worth
      rw [vw_v, vw_y, vw_r]
      split <;> (try split) <;> (try split) <;> omega
    show (if _ then _ else 0) ≤ 3
    split
    · exact hw
    · omega)
  have := h.1
  omega
theorem w_sumc_lt (f : Nat → Nat) (w : Nat) : ∀ (p : List (Nat × Nat × List Nat)), (∀ c ∈ p, w_okc c) → w_sumc f w p ≤ 99 * p.length
  | [], _ => Nat.le_refl 0
  | c :: p, h => by
    have h1 := w_sumc_lt f w p (fun x hx => h x (List.mem_cons_of_mem _ hx))
    have h2 := (h c List.mem_cons_self).2.1
    show (if c.1 = w then (if w_holds f c.2.2 = true then c.2.1 else 0) else 0) + w_sumc f w p ≤ 99 * (p.length + 1)
    split <;> (try split) <;> omega
theorem w_sum_lt {v : VW} (h : w_okp (w_p v)) (w a c : Nat) : w_sum v w a c ≤ 990 := by
  unfold w_sum
  split
  · have := w_sumc_lt (w_fact v a c) w (w_p v) h.2
    have := h.1
    omega
  · omega
theorem MP_ok {I : Nat → Nat → Int32} {p : List (Nat × Nat × List Nat)} (h : MP I p) : w_okp p := by
  rcases h with ⟨rfl, -⟩ | ⟨f, -, h⟩
  · exact ⟨Nat.zero_le _, fun c hc => by cases hc⟩
  · exact h.2.1
/-- of the first k pairs: those amiss, as bits; by how much; how many are of p -/
def w_set (v : VW) : Nat → Nat
  | 0 => 0
  | k + 1 => if w_amp v k = true then w_set v k ||| 2 ^ k else w_set v k
def w_os (v : VW) (k : Nat) : Nat := sm (fun i => if w_amp v i = true then w_off v (w_l i) (w_g i) else 0) k
def w_cp (v : VW) (k p : Nat) : Nat := cnt (fun i => w_amp v i && (decide (w_l i = p) || decide (w_g i = p))) k
def LA (I Ii : Nat → Nat → Int32) (v : VW) (k : Nat) : Prop := mJ I Ii ∧ Ii 55 26 = nI (w_set v k) ∧ Ii 55 27 = nI (w_os v k) ∧ ∀ p, p < 7 → Ii 71 p = nI (w_cp v k p)
theorem LA_P {I Ii I2 : Nat → Nat → Int32} {v : VW} {k : Nat} (h : LA I Ii v k) (m : mP Ii I2) : LA I I2 v k := ⟨mJ_tr h.1 (mP_J m), (m _ _ (by decide)).trans h.2.1, (m _ _ (by decide)).trans h.2.2.1, fun p hp => (m _ _ (by decide)).trans (h.2.2.2 p hp)⟩
theorem LA_0 {I Ii : Nat → Nat → Int32} {v : VW} {k : Nat} (h : LA I Ii v k) (ha : w_amp v k = false) : LA I Ii v (k + 1) := by
  refine ⟨h.1, ?_, ?_, fun p hp => ?_⟩
  · rw [h.2.1]; simp [w_set, ha]
  · rw [h.2.2.1]; simp [w_os, sm, ha]
  · rw [h.2.2.2 p hp]; simp [w_cp, cnt, ha]
theorem LA_1 {I Ii : Nat → Nat → Int32} {v : VW} {k a d : Nat} (h : LA I Ii v k) (ha : w_amp v k = true) (hl : w_l k = a) (hg : w_g k = d) (had : a < d) :
    LA I (v_u (v_u (v_u (v_u Ii 55 26 (nI (w_set v k ||| 2 ^ k))) 55 27 (nI (w_os v k + w_off v a d))) 71 a (nI (w_cp v k a + 1))) 71 d (nI (w_cp v k d + 1))) v (k + 1) := by
  subst hl
  subst hg
  refine ⟨fun x z n => ?_, ?_, ?_, fun p hp => ?_⟩
  · have n1 : x ≠ 71 := fun e => n (Or.inr (Or.inl e))
    rw [v_u_h n1, v_u_h n1]
    by_cases hx : x = 55
    · subst hx
      have n2 : z ≠ 26 := fun e => n (Or.inr (Or.inr (Or.inr (Or.inr ⟨rfl, Or.inl e⟩))))
      have n3 : z ≠ 27 := fun e => n (Or.inr (Or.inr (Or.inr (Or.inr ⟨rfl, Or.inr (Or.inl e)⟩))))
      rw [v_u_k n3, v_u_k n2]; exact h.1 _ z n
    · rw [v_u_h hx, v_u_h hx]; exact h.1 x z n
  · rw [v_u_h (by decide), v_u_h (by decide), v_u_k (by decide), v_u_same]; simp [w_set, ha]
  · rw [v_u_h (by decide), v_u_h (by decide), v_u_same]; simp [w_os, sm, ha]
  · by_cases h1 : p = w_g k
    · subst h1
      rw [v_u_same]; simp [w_cp, cnt, ha]
    · rw [v_u_k h1]
      by_cases h2 : p = w_l k
      · subst h2
        rw [v_u_same]; simp [w_cp, cnt, ha]
      · rw [v_u_k h2, v_u_h (by decide), v_u_h (by decide), h.2.2.2 p hp]
        simp [w_cp, cnt, Ne.symm h1, Ne.symm h2]
theorem w_lg : ∀ d, d < 6 → ∀ a, a < d → w_l (w_pr d + a) = a ∧ w_g (w_pr d + a) = d := by decide
theorem w_pr_s : ∀ d, d < 7 → 1 ≤ d → w_pr (d + 1) = w_pr d + d := by decide
abbrev rm_X12_sumOf : Room := { frames := 4, cells := 0, slots := 0, locals := 95 }
set_option maxRecDepth 20000 in
theorem c_X12_sumOf (G : v_G) (l : Launch) {K : Nat × v_TY} {I : Nat → Nat → Int32} {J : Nat → Nat → Int64} {R : Nat → Nat → Option Nat} (hL : Lay K R) {w a c : Nat} {b : BS} {g : Nat} {p : List (Nat × Nat × List Nat)} (h : MW I b g p) (hw : w < 3) (hp : a < 7 ∧ c < 7) (hpg : a ≠ g ∧ c ≠ g) : v_M G l yX12_sumOf cX12_sumOf 7 (some .int) rm_X12_sumOf [.ref 55, .int (nI w), .int (nI a), .int (nI c)] (K, I, J, R) (v_Qi G (fun (x : Int32) (M' : v_MM) => x = nI (w_sum (vw b g p) w a c) ∧ ∃ I', M' = (K, I', J, R) ∧ mP I I')) := by
  refine v_of [some (.ref 55), some (.int (nI w)), some (.int (nI a)), some (.int (nI c)), none, none, none] (by decide) (Nat.le_of_ble_eq_true rfl) (Nat.le_of_ble_eq_true rfl) rfl ?_
  refine v_iconst (pc := 0) (v := nI 0) dX12_sumOf_0 (by decide) ?_
  refine v_istore (pc := 1) dX12_sumOf_1 (by decide) rfl ?_
  refine v_iconst (pc := 3) (v := nI 0) dX12_sumOf_3 (by decide) ?_
  refine v_istore (pc := 4) dX12_sumOf_4 (by decide) rfl ?_
  rcases h.2 with ⟨hp0, hthe⟩ | ⟨f, hthe, hf⟩
  · subst hp0
    refine v_aload_n (pc := 6) dX12_sumOf_6 rfl rfl ?_
    refine v_ci (pc := 7) (v_rV (c_X12_begin G l hL (f := 0) (Or.inr ⟨rfl, hthe⟩)) rfl kV_X12_283 (v_rcO (li_55 hL) rfl (by decide)) ⟨Nat.le_of_ble_eq_true rfl, Nat.le_of_ble_eq_true rfl⟩ ⟨Nat.le_of_ble_eq_true rfl, Nat.le_of_ble_eq_true rfl⟩ dX12_sumOf_7 (Nat.le_of_ble_eq_true rfl)) (fun x7 M7 h7 => ?_)
    obtain ⟨rfl, rfl⟩ := h7
    refine v_istore (pc := 10) dX12_sumOf_10 (by decide) rfl ?_
    refine v_iload (pc := 12) dX12_sumOf_12 rfl ?_
    refine v_aload_n (pc := 14) dX12_sumOf_14 rfl rfl ?_
    refine v_ci (pc := 15) (v_rV (c_X12_behind G l hL (f := 0) (n := 0) (Or.inr ⟨rfl, rfl, hthe⟩)) rfl kV_X12_286 (v_rcO (li_55 hL) rfl (by decide)) ⟨Nat.le_of_ble_eq_true rfl, Nat.le_of_ble_eq_true rfl⟩ ⟨Nat.le_of_ble_eq_true rfl, Nat.le_of_ble_eq_true rfl⟩ dX12_sumOf_15 (Nat.le_of_ble_eq_true rfl)) (fun x15 M15 h15 => ?_)
    obtain ⟨rfl, rfl⟩ := h15
    refine v_icmp_geN (pc := 18) (tgt := 71) ⟨by omega, by omega⟩ dX12_sumOf_18 (by decide) (fun c18 => ?_) (fun c18 => ?_)
    · refine v_iload (pc := 71) dX12_sumOf_71 rfl ?_
      refine v_if_eqN (pc := 73) (tgt := 81) (by omega) dX12_sumOf_73 (by decide) (fun c73 => ?_) (fun c73 => ?_)
      · refine v_iconst (pc := 81) (v := nI 1) dX12_sumOf_81 (by decide) ?_
        exact v_iret (pc := 82) dX12_sumOf_82 rfl rfl (Nat.le_of_ble_eq_true rfl) (Nat.le_of_ble_eq_true rfl) ⟨rfl, I, rfl, mP_rf⟩
      · exact absurd rfl c73
    · exact absurd c18 (by omega)
  · have hf6 := hf.1
    have hok := hf.2.1
    have hl10 := hok.1
    have key : ∀ j, j ≤ p.length → ∀ Ii : Nat → Nat → Int32, mP I Ii → v_V G l yX12_sumOf cX12_sumOf 7 (some .int) rm_X12_sumOf (v_Qi G (fun (x : Int32) (M' : v_MM) => x = nI (w_sum (vw b g p) w a c) ∧ ∃ I', M' = (K, I', J, R) ∧ mP I I')) 0 0 12 [some (.ref 55), some (.int (nI w)), some (.int (nI a)), some (.int (nI c)), some (.int (nI (w_sumc (w_fact (vw b g p) a c) w (p.take j)))), some (.int (nI (if w_any w (p.take j) = true then 1 else 0))), some (.int (nI (10 * f + j)))] [] (K, Ii, J, R) := by
      refine v_down p.length (fun j hj ih => ?_)
      intro Ii hm
      have hthe2 : Ii 55 9 = nI f := (hm _ _ (by decide)).trans hthe
      have hf2 := MPt_J hf (mP_J hm)
      have hv := MV_J h.1 (mP_J hm)
      refine v_iload (pc := 12) dX12_sumOf_12 rfl ?_
      refine v_aload_n (pc := 14) dX12_sumOf_14 rfl rfl ?_
      refine v_ci (pc := 15) (v_rV (c_X12_behind G l hL (f := f) (n := p.length) (Or.inl ⟨hf6, hthe2, hf2.2.2.1⟩)) rfl kV_X12_286 (v_rcO (li_55 hL) rfl (by decide)) ⟨Nat.le_of_ble_eq_true rfl, Nat.le_of_ble_eq_true rfl⟩ ⟨Nat.le_of_ble_eq_true rfl, Nat.le_of_ble_eq_true rfl⟩ dX12_sumOf_15 (Nat.le_of_ble_eq_true rfl)) (fun x15 M15 h15 => ?_)
      obtain ⟨rfl, rfl⟩ := h15
      refine v_icmp_geN (pc := 18) (tgt := 71) ⟨by omega, by omega⟩ dX12_sumOf_18 (by decide) (fun c18 => ?_) (fun c18 => ?_)
      · have e : j = p.length := by omega
        subst e
        rw [List.take_length]
        refine v_iload (pc := 71) dX12_sumOf_71 rfl ?_
        refine v_if_eqN (pc := 73) (tgt := 81) (by split <;> omega) dX12_sumOf_73 (by decide) (fun c73 => ?_) (fun c73 => ?_)
        · refine v_iconst (pc := 81) (v := nI 1) dX12_sumOf_81 (by decide) ?_
          exact v_iret (pc := 82) dX12_sumOf_82 rfl rfl (Nat.le_of_ble_eq_true rfl) (Nat.le_of_ble_eq_true rfl) ⟨by first | (show _ = nI (w_sum (vw b g p) w a c); rw [w_sum, vw_p]; simp_all; done) | (show _ = nI (w_sum (vw b g p) w a c); rw [w_sum, vw_p]; split <;> simp_all), Ii, rfl, hm⟩
        · refine v_iload (pc := 76) dX12_sumOf_76 rfl ?_
          refine v_goto (pc := 78) (tgt := 82) dX12_sumOf_78 (by decide) ?_
          exact v_iret (pc := 82) dX12_sumOf_82 rfl rfl (Nat.le_of_ble_eq_true rfl) (Nat.le_of_ble_eq_true rfl) ⟨by first | (show _ = nI (w_sum (vw b g p) w a c); rw [w_sum, vw_p]; simp_all; done) | (show _ = nI (w_sum (vw b g p) w a c); rw [w_sum, vw_p]; split <;> simp_all), Ii, rfl, hm⟩
      · obtain ⟨cl, hcl⟩ : ∃ cl, p[j]? = some cl := ⟨_, List.getElem?_eq_getElem (show j < p.length by omega)⟩
        obtain ⟨hw1, hw2, s, hw3, hw4, hw5, hw6⟩ := hf2.2.2.2 j cl hcl
        have hokc := hok.2 cl (List.mem_of_getElem? hcl)
        have hc1 := hokc.1
        have et := w_take hcl
        refine v_aload_n (pc := 21) dX12_sumOf_21 rfl rfl ?_
        refine v_getH (pc := 22) fg_X12_56_12 dX12_sumOf_22 (li_55 hL) (lr_55_15 hL) ?_
        refine v_iload (pc := 25) dX12_sumOf_25 rfl ?_
        refine v_ialoadN (pc := 27) dX12_sumOf_27 (li_63 hL) ⟨by omega, by omega⟩ hw1 ?_
        refine v_iload_n (pc := 28) dX12_sumOf_28 rfl rfl ?_
        refine v_icmp_eqN (pc := 29) (tgt := 35) ⟨by omega, by omega⟩ dX12_sumOf_29 (by decide) (fun c29 => ?_) (fun c29 => ?_)
        · refine v_iconst (pc := 35) (v := nI 1) dX12_sumOf_35 (by decide) ?_
          refine v_istore (pc := 36) dX12_sumOf_36 (by decide) rfl ?_
          refine v_iload (pc := 38) dX12_sumOf_38 rfl ?_
          refine v_aload_n (pc := 40) dX12_sumOf_40 rfl rfl ?_
          refine v_iload (pc := 41) dX12_sumOf_41 rfl ?_
          refine v_iload_n (pc := 43) dX12_sumOf_43 rfl rfl ?_
          refine v_iload_n (pc := 44) dX12_sumOf_44 rfl rfl ?_
          refine v_ci (pc := 45) (v_rV (c_X12_holds G l hL (q := p) hv hp hpg (by omega) ⟨hw3, hw4, by omega⟩ hw6 hokc.2.2.2) rfl kV_X12_289 (v_rcO (li_55 hL) rfl (by decide)) ⟨Nat.le_of_ble_eq_true rfl, Nat.le_of_ble_eq_true rfl⟩ ⟨Nat.le_of_ble_eq_true rfl, Nat.le_of_ble_eq_true rfl⟩ dX12_sumOf_45 (Nat.le_of_ble_eq_true rfl)) (fun x45 M45 h45 => ?_)
          obtain ⟨rfl, I2, rfl, hm2⟩ := h45
          refine v_if_eqP (pc := 48) (tgt := 61) dX12_sumOf_48 (by decide) (fun c48 => ?_) (fun c48 => ?_)
          · refine v_iconst (pc := 61) (v := nI 0) dX12_sumOf_61 (by decide) ?_
            refine v_iaddN (pc := 62) dX12_sumOf_62 ?_
            refine v_istore (pc := 63) dX12_sumOf_63 (by decide) rfl ?_
            refine v_iincN (pc := 65) (b := 1) dX12_sumOf_65 rfl (by decide) (by decide) rfl ?_
            refine v_goto (pc := 68) (tgt := 12) dX12_sumOf_68 (by decide) ?_
            first
              | (refine v_lvs ?_ (ih (j + 1) (by omega) (by omega) _ (mP_tr hm hm2)); rw [et, w_sumc_app, w_any_app]; simp [w_sumc, w_any, c29, c48, Nat.add_assoc]; done)
              | (refine v_lvs ?_ (ih (j + 1) (by omega) (by omega) _ hm); rw [et, w_sumc_app, show w_any w (p.take j ++ [cl]) = w_any w (p.take j) from (by rw [w_any_app]; simp [w_any, c29])]; simp [w_sumc, c29, Nat.add_assoc]; done)
          · refine v_aload_n (pc := 51) dX12_sumOf_51 rfl rfl ?_
            refine v_getH (pc := 52) fg_X12_59_12 dX12_sumOf_52 (li_55 hL) (lr_55_16 hL) ?_
            refine v_iload (pc := 55) dX12_sumOf_55 rfl ?_
            refine v_ialoadN (pc := 57) dX12_sumOf_57 (li_64 hL) ⟨by omega, by omega⟩ ((hm2 _ _ (by decide)).trans hw2) ?_
            refine v_goto (pc := 58) (tgt := 62) dX12_sumOf_58 (by decide) ?_
            refine v_iaddN (pc := 62) dX12_sumOf_62 ?_
            refine v_istore (pc := 63) dX12_sumOf_63 (by decide) rfl ?_
            refine v_iincN (pc := 65) (b := 1) dX12_sumOf_65 rfl (by decide) (by decide) rfl ?_
            refine v_goto (pc := 68) (tgt := 12) dX12_sumOf_68 (by decide) ?_
            first
              | (refine v_lvs ?_ (ih (j + 1) (by omega) (by omega) _ (mP_tr hm hm2)); rw [et, w_sumc_app, w_any_app]; simp [w_sumc, w_any, c29, c48, Nat.add_assoc]; done)
              | (refine v_lvs ?_ (ih (j + 1) (by omega) (by omega) _ hm); rw [et, w_sumc_app, show w_any w (p.take j ++ [cl]) = w_any w (p.take j) from (by rw [w_any_app]; simp [w_any, c29])]; simp [w_sumc, c29, Nat.add_assoc]; done)
        · refine v_goto (pc := 32) (tgt := 65) dX12_sumOf_32 (by decide) ?_
          refine v_iincN (pc := 65) (b := 1) dX12_sumOf_65 rfl (by decide) (by decide) rfl ?_
          refine v_goto (pc := 68) (tgt := 12) dX12_sumOf_68 (by decide) ?_
          first
            | (refine v_lvs ?_ (ih (j + 1) (by omega) (by omega) _ (mP_tr hm hm2)); rw [et, w_sumc_app, w_any_app]; simp [w_sumc, w_any, c29, c48, Nat.add_assoc]; done)
            | (refine v_lvs ?_ (ih (j + 1) (by omega) (by omega) _ hm); rw [et, w_sumc_app, show w_any w (p.take j ++ [cl]) = w_any w (p.take j) from (by rw [w_any_app]; simp [w_any, c29])]; simp [w_sumc, c29, Nat.add_assoc]; done)
    refine v_aload_n (pc := 6) dX12_sumOf_6 rfl rfl ?_
    refine v_ci (pc := 7) (v_rV (c_X12_begin G l hL (f := f) (Or.inl ⟨hf6, hthe⟩)) rfl kV_X12_283 (v_rcO (li_55 hL) rfl (by decide)) ⟨Nat.le_of_ble_eq_true rfl, Nat.le_of_ble_eq_true rfl⟩ ⟨Nat.le_of_ble_eq_true rfl, Nat.le_of_ble_eq_true rfl⟩ dX12_sumOf_7 (Nat.le_of_ble_eq_true rfl)) (fun x7 M7 h7 => ?_)
    obtain ⟨rfl, rfl⟩ := h7
    refine v_istore (pc := 10) dX12_sumOf_10 (by decide) rfl ?_
    exact key 0 (Nat.zero_le _) I mP_rf
abbrev rm_X12_priceOf : Room := { frames := 5, cells := 0, slots := 0, locals := 121 }
set_option maxRecDepth 20000 in
theorem c_X12_priceOf (G : v_G) (l : Launch) {K : Nat × v_TY} {I : Nat → Nat → Int32} {J : Nat → Nat → Int64} {R : Nat → Nat → Option Nat} (hL : Lay K R) {a c : Nat} {b : BS} {g : Nat} {p : List (Nat × Nat × List Nat)} (h : MW I b g p) (hp : a < 7 ∧ c < 7) (hpg : a ≠ g ∧ c ≠ g) : v_M G l yX12_priceOf cX12_priceOf 3 (some .int) rm_X12_priceOf [.ref 55, .int (nI a), .int (nI c)] (K, I, J, R) (v_Qi G (fun (x : Int32) (M' : v_MM) => x = nI (w_price (vw b g p) a c) ∧ ∃ I', M' = (K, I', J, R) ∧ mP I I')) := by
  refine v_of [some (.ref 55), some (.int (nI a)), some (.int (nI c))] (by decide) (Nat.le_of_ble_eq_true rfl) (Nat.le_of_ble_eq_true rfl) rfl ?_
  refine v_aload_n (pc := 0) dX12_priceOf_0 rfl rfl ?_
  refine v_aload_n (pc := 1) dX12_priceOf_1 rfl rfl ?_
  refine v_aload_n (pc := 2) dX12_priceOf_2 rfl rfl ?_
  refine v_getH (pc := 3) fg_X12_26_12 dX12_priceOf_3 (li_55 hL) (lr_55_5 hL) ?_
  refine v_iload_n (pc := 6) dX12_priceOf_6 rfl rfl ?_
  refine v_ialoadN (pc := 7) dX12_priceOf_7 (li_58 hL) ⟨by omega, by omega⟩ (MVm h.1 hp.1) ?_
  refine v_iload_n (pc := 8) dX12_priceOf_8 rfl rfl ?_
  refine v_ci (pc := 9) (v_rV (c_X12_has G l hL (by omega)) rfl kV_X12_217 (v_rcO (li_55 hL) rfl (by decide)) ⟨Nat.le_of_ble_eq_true rfl, Nat.le_of_ble_eq_true rfl⟩ ⟨Nat.le_of_ble_eq_true rfl, Nat.le_of_ble_eq_true rfl⟩ dX12_priceOf_9 (Nat.le_of_ble_eq_true rfl)) (fun x9 M9 h9 => ?_)
  obtain ⟨rfl, rfl⟩ := h9
  refine v_if_eqP (pc := 12) (tgt := 19) dX12_priceOf_12 (by decide) (fun c12 => ?_) (fun c12 => ?_)
  · rw [w_bt (by omega)] at c12
    have fr : w_a (vw b g p) a c = false := by simp [vw_a, c12]
    refine v_iconst (pc := 19) (v := nI 1) dX12_priceOf_19 (by decide) ?_
    refine v_iload_n (pc := 20) dX12_priceOf_20 rfl rfl ?_
    refine v_iload_n (pc := 21) dX12_priceOf_21 rfl rfl ?_
    refine v_ci (pc := 22) (v_rV (c_X12_sumOf G l hL h (by omega) hp hpg) rfl kV_X12_292 (v_rcO (li_55 hL) rfl (by decide)) ⟨Nat.le_of_ble_eq_true rfl, Nat.le_of_ble_eq_true rfl⟩ ⟨Nat.le_of_ble_eq_true rfl, Nat.le_of_ble_eq_true rfl⟩ dX12_priceOf_22 (Nat.le_of_ble_eq_true rfl)) (fun x22 M22 h22 => ?_)
    obtain ⟨rfl, I2, rfl, hm2⟩ := h22
    exact v_iret (pc := 25) dX12_priceOf_25 rfl rfl (Nat.le_of_ble_eq_true rfl) (Nat.le_of_ble_eq_true rfl) ⟨by simp [w_price, fr], I2, rfl, hm2⟩
  · rw [w_bt (by omega)] at c12
    have fr : w_a (vw b g p) a c = true := by simp [vw_a, c12, hpg]
    refine v_iconst (pc := 15) (v := nI 2) dX12_priceOf_15 (by decide) ?_
    refine v_goto (pc := 16) (tgt := 20) dX12_priceOf_16 (by decide) ?_
    refine v_iload_n (pc := 20) dX12_priceOf_20 rfl rfl ?_
    refine v_iload_n (pc := 21) dX12_priceOf_21 rfl rfl ?_
    refine v_ci (pc := 22) (v_rV (c_X12_sumOf G l hL h (by omega) hp hpg) rfl kV_X12_292 (v_rcO (li_55 hL) rfl (by decide)) ⟨Nat.le_of_ble_eq_true rfl, Nat.le_of_ble_eq_true rfl⟩ ⟨Nat.le_of_ble_eq_true rfl, Nat.le_of_ble_eq_true rfl⟩ dX12_priceOf_22 (Nat.le_of_ble_eq_true rfl)) (fun x22 M22 h22 => ?_)
    obtain ⟨rfl, I2, rfl, hm2⟩ := h22
    exact v_iret (pc := 25) dX12_priceOf_25 rfl rfl (Nat.le_of_ble_eq_true rfl) (Nat.le_of_ble_eq_true rfl) ⟨by simp [w_price, fr], I2, rfl, hm2⟩
abbrev rm_X12_offOf : Room := { frames := 5, cells := 0, slots := 0, locals := 121 }
set_option maxRecDepth 20000 in
theorem c_X12_offOf (G : v_G) (l : Launch) {K : Nat × v_TY} {I : Nat → Nat → Int32} {J : Nat → Nat → Int64} {R : Nat → Nat → Option Nat} (hL : Lay K R) {a c : Nat} {b : BS} {g : Nat} {p : List (Nat × Nat × List Nat)} (h : MW I b g p) (hp : a < 7 ∧ c < 7) (hpg : a ≠ g ∧ c ≠ g) : v_M G l yX12_offOf cX12_offOf 4 (some .int) rm_X12_offOf [.ref 55, .int (nI a), .int (nI c)] (K, I, J, R) (v_Qi G (fun (x : Int32) (M' : v_MM) => x = nI (w_off (vw b g p) a c) ∧ ∃ I', M' = (K, I', J, R) ∧ mP I I')) := by
  refine v_of [some (.ref 55), some (.int (nI a)), some (.int (nI c)), none] (by decide) (Nat.le_of_ble_eq_true rfl) (Nat.le_of_ble_eq_true rfl) rfl ?_
  refine v_aload_n (pc := 0) dX12_offOf_0 rfl rfl ?_
  refine v_iload_n (pc := 1) dX12_offOf_1 rfl rfl ?_
  refine v_iload_n (pc := 2) dX12_offOf_2 rfl rfl ?_
  refine v_ci (pc := 3) (v_rV (c_X12_commonOf G l hL (q := p) h.1 hp hpg) rfl kV_X12_301 (v_rcO (li_55 hL) rfl (by decide)) ⟨Nat.le_of_ble_eq_true rfl, Nat.le_of_ble_eq_true rfl⟩ ⟨Nat.le_of_ble_eq_true rfl, Nat.le_of_ble_eq_true rfl⟩ dX12_offOf_3 (Nat.le_of_ble_eq_true rfl)) (fun x3 M3 h3 => ?_)
  obtain ⟨rfl, rfl⟩ := h3
  refine v_aload_n (pc := 6) dX12_offOf_6 rfl rfl ?_
  refine v_iconst (pc := 7) (v := nI 0) dX12_offOf_7 (by decide) ?_
  refine v_iload_n (pc := 8) dX12_offOf_8 rfl rfl ?_
  refine v_iload_n (pc := 9) dX12_offOf_9 rfl rfl ?_
  refine v_ci (pc := 10) (v_rV (c_X12_sumOf G l hL h (by omega) hp hpg) rfl kV_X12_292 (v_rcO (li_55 hL) rfl (by decide)) ⟨Nat.le_of_ble_eq_true rfl, Nat.le_of_ble_eq_true rfl⟩ ⟨Nat.le_of_ble_eq_true rfl, Nat.le_of_ble_eq_true rfl⟩ dX12_offOf_10 (Nat.le_of_ble_eq_true rfl)) (fun x10 M10 h10 => ?_)
  obtain ⟨rfl, I2, rfl, hm2⟩ := h10
  have hA := w_com_lt h.1.2.1 g p a c
  have hB := w_sum_lt (v := vw b g p) (MP_ok h.2) 0 a c
  generalize hAe : w_com (vw b g p) a c = A at hA ⊢
  generalize hBe : w_sum (vw b g p) 0 a c = B at hB ⊢
  have hoff : w_off (vw b g p) a c = (A - B) + (B - A) := by rw [w_off, hAe, hBe]
  rcases Nat.lt_or_ge A B with hAB | hAB
  · refine v_isub (pc := 13) dX12_offOf_13 ?_
    refine v_istore_n (pc := 14) dX12_offOf_14 rfl (by decide) rfl ?_
    refine v_iload_n (pc := 15) dX12_offOf_15 rfl rfl ?_
    refine v_if_ge (pc := 16) (tgt := 24) dX12_offOf_16 (by decide) (fun c16 => ?_) (fun c16 => ?_)
    · exact absurd c16 (by rw [Int32.not_le]; exact pk_sneg (by omega) hAB)
    · refine v_iload_n (pc := 19) dX12_offOf_19 rfl rfl ?_
      refine v_ineg (pc := 20) dX12_offOf_20 ?_
      refine v_top (show -(nI A - nI B) = nI (B - A) by rw [Int32.neg_sub, pk_sub (by omega)]) ?_
      refine v_goto (pc := 21) (tgt := 25) dX12_offOf_21 (by decide) ?_
      exact v_iret (pc := 25) dX12_offOf_25 rfl rfl (Nat.le_of_ble_eq_true rfl) (Nat.le_of_ble_eq_true rfl) ⟨by rw [hoff, show A - B = 0 by omega, Nat.zero_add], I2, rfl, hm2⟩
  · refine v_isubN (pc := 13) hAB dX12_offOf_13 ?_
    refine v_istore_n (pc := 14) dX12_offOf_14 rfl (by decide) rfl ?_
    refine v_iload_n (pc := 15) dX12_offOf_15 rfl rfl ?_
    refine v_if_geN (pc := 16) (tgt := 24) (by omega) dX12_offOf_16 (by decide) ?_
    refine v_iload_n (pc := 24) dX12_offOf_24 rfl rfl ?_
    exact v_iret (pc := 25) dX12_offOf_25 rfl rfl (Nat.le_of_ble_eq_true rfl) (Nat.le_of_ble_eq_true rfl) ⟨by rw [hoff, show B - A = 0 by omega, Nat.add_zero], I2, rfl, hm2⟩
abbrev rm_X12_layAmiss : Room := { frames := 6, cells := 0, slots := 0, locals := 144 }
set_option maxRecDepth 20000 in
theorem c_X12_layAmiss (G : v_G) (l : Launch) {K : Nat × v_TY} {I : Nat → Nat → Int32} {J : Nat → Nat → Int64} {R : Nat → Nat → Option Nat} (hL : Lay K R) {b : BS} {g : Nat} {p : List (Nat × Nat × List Nat)} (h : MW I b g p) : v_M G l yX12_layAmiss cX12_layAmiss 5 (some .int) rm_X12_layAmiss [.ref 55] (K, I, J, R) (v_Qi G (fun (x : Int32) (M' : v_MM) => x = nI (w_many (vw b g p)) ∧ ∃ I', M' = (K, I', J, R) ∧ LA I I' (vw b g p) (w_pr (b_n b)))) := by
  refine v_of [some (.ref 55), none, none, none, none] (by decide) (Nat.le_of_ble_eq_true rfl) (Nat.le_of_ble_eq_true rfl) rfl ?_
  have outer : ∀ d, d ≤ 7 → ∀ (Ii : Nat → Nat → Int32) (z3 z4 : Option Value), 1 ≤ d → (d ≤ b_n b ∨ d = 1) → LA I Ii (vw b g p) (w_pr d) → v_V G l yX12_layAmiss cX12_layAmiss 5 (some .int) rm_X12_layAmiss (v_Qi G (fun (x : Int32) (M' : v_MM) => x = nI (w_many (vw b g p)) ∧ ∃ I', M' = (K, I', J, R) ∧ LA I I' (vw b g p) (w_pr (b_n b)))) 0 0 35 [some (.ref 55), some (.int (nI (cnt (w_amp (vw b g p)) (w_pr d)))), some (.int (nI d)), z3, z4] [] (K, Ii, J, R) := by
    have hn := VBn h.1
    refine v_down 7 (fun d hd ih => ?_)
    intro Ii z3 z4 h1 hdn hLA
    have hW := MW_J h hLA.1
    refine v_iload_n (pc := 35) dX12_layAmiss_35 rfl rfl ?_
    refine v_aload_n (pc := 36) dX12_layAmiss_36 rfl rfl ?_
    refine v_getV (pc := 37) fg_X12_7_12 dX12_layAmiss_37 (li_55 hL) (MVn hW.1) ?_
    refine v_icmp_geN (pc := 40) (tgt := 148) ⟨by omega, by omega⟩ dX12_layAmiss_40 (by decide) (fun c40 => ?_) (fun c40 => ?_)
    · have ep : w_pr d = w_pr (b_n b) := by
        rcases hdn with z | z
        · rw [show d = b_n b by omega]
        · subst z
          rcases (show b_n b = 0 ∨ b_n b = 1 by omega) with y | y <;> rw [y] <;> rfl
      refine v_iload_n (pc := 148) dX12_layAmiss_148 rfl rfl ?_
      exact v_iret (pc := 149) dX12_layAmiss_149 rfl rfl (Nat.le_of_ble_eq_true rfl) (Nat.le_of_ble_eq_true rfl) ⟨by rw [w_many, vw_n, ← ep], Ii, rfl, by rw [← ep]; exact hLA⟩
    · have inner : ∀ a, a ≤ d → ∀ (Ij : Nat → Nat → Int32) (z4 : Option Value), LA I Ij (vw b g p) (w_pr d + a) → v_V G l yX12_layAmiss cX12_layAmiss 5 (some .int) rm_X12_layAmiss (v_Qi G (fun (x : Int32) (M' : v_MM) => x = nI (w_many (vw b g p)) ∧ ∃ I', M' = (K, I', J, R) ∧ LA I I' (vw b g p) (w_pr (b_n b)))) 0 0 45 [some (.ref 55), some (.int (nI (cnt (w_amp (vw b g p)) (w_pr d + a)))), some (.int (nI d)), some (.int (nI a)), z4] [] (K, Ij, J, R) := by
        refine v_down d (fun a ha ih2 => ?_)
        intro Ij z4 hLB
        have hX := MW_J h hLB.1
        refine v_iload_n (pc := 45) dX12_layAmiss_45 rfl rfl ?_
        refine v_iload_n (pc := 46) dX12_layAmiss_46 rfl rfl ?_
        refine v_icmp_geN (pc := 47) (tgt := 142) ⟨by omega, by omega⟩ dX12_layAmiss_47 (by decide) (fun c47 => ?_) (fun c47 => ?_)
        · have e : a = d := by omega
          subst e
          rw [← w_pr_s a (by omega) h1] at hLB ⊢
          refine v_iincN (pc := 142) (b := 1) dX12_layAmiss_142 rfl (by decide) (by decide) rfl ?_
          refine v_goto (pc := 145) (tgt := 35) dX12_layAmiss_145 (by decide) ?_
          exact ih (a + 1) (by omega) (by omega) _ _ _ (by omega) (Or.inl (by omega)) hLB
        · have hlg := w_lg d (by omega) a (by omega)
          refine v_iload_n (pc := 50) dX12_layAmiss_50 rfl rfl ?_
          refine v_aload_n (pc := 51) dX12_layAmiss_51 rfl rfl ?_
          refine v_getI (pc := 52) fg_X12_16_12 dX12_layAmiss_52 (li_55 hL) ?_
          refine v_icmp_eq (pc := 55) (tgt := 136) dX12_layAmiss_55 (by decide) (fun c55 => ?_) (fun c55 => ?_)
          · have hno : w_amp (vw b g p) (w_pr d + a) = false := by rw [w_amp, hlg.1, hlg.2, w_am, vw_h, vw_h]; simp [(MGeq hX.1.2.2 (show a < 7 by omega)).mp c55]
            refine v_iincN (pc := 136) (b := 1) dX12_layAmiss_136 rfl (by decide) (by decide) rfl ?_
            refine v_goto (pc := 139) (tgt := 45) dX12_layAmiss_139 (by decide) ?_
            first
              | (have en : cnt (w_amp (vw b g p)) (w_pr d + (a + 1)) = cnt (w_amp (vw b g p)) (w_pr d + a) + 1 := (by simp [cnt, hyes, ← Nat.add_assoc]); have e := fun z => ih2 (a + 1) (by omega) (by omega) _ z (LA_1 hLC hyes hlg.1 hlg.2 (by omega)); simp only [en] at e; exact e _)
              | (have en : cnt (w_amp (vw b g p)) (w_pr d + (a + 1)) = cnt (w_amp (vw b g p)) (w_pr d + a) := (by simp [cnt, hno, ← Nat.add_assoc]); have e := fun z => ih2 (a + 1) (by omega) (by omega) _ z (LA_0 hLC hno); simp only [en] at e; exact e _)
              | (have en : cnt (w_amp (vw b g p)) (w_pr d + (a + 1)) = cnt (w_amp (vw b g p)) (w_pr d + a) := (by simp [cnt, hno, ← Nat.add_assoc]); have e := fun z => ih2 (a + 1) (by omega) (by omega) _ z (LA_0 hLB hno); simp only [en] at e; exact e _)
          · refine v_iload_n (pc := 58) dX12_layAmiss_58 rfl rfl ?_
            refine v_aload_n (pc := 59) dX12_layAmiss_59 rfl rfl ?_
            refine v_getI (pc := 60) fg_X12_16_12 dX12_layAmiss_60 (li_55 hL) ?_
            refine v_icmp_ne (pc := 63) (tgt := 69) dX12_layAmiss_63 (by decide) (fun c63 => ?_) (fun c63 => ?_)
            · refine v_aload_n (pc := 69) dX12_layAmiss_69 rfl rfl ?_
              refine v_iload_n (pc := 70) dX12_layAmiss_70 rfl rfl ?_
              refine v_iload_n (pc := 71) dX12_layAmiss_71 rfl rfl ?_
              refine v_ci (pc := 72) (v_rV (c_X12_offOf G l hL hX ⟨by omega, by omega⟩ ⟨fun e => c55 ((MGeq hX.1.2.2 (by omega)).mpr e), fun e => c63 ((MGeq hX.1.2.2 (by omega)).mpr e)⟩) rfl kV_X12_304 (v_rcO (li_55 hL) rfl (by decide)) ⟨Nat.le_of_ble_eq_true rfl, Nat.le_of_ble_eq_true rfl⟩ ⟨Nat.le_of_ble_eq_true rfl, Nat.le_of_ble_eq_true rfl⟩ dX12_layAmiss_72 (Nat.le_of_ble_eq_true rfl)) (fun x72 M72 h72 => ?_)
              obtain ⟨rfl, I2, rfl, hm2⟩ := h72
              have hLC := LA_P hLB hm2
              refine v_istore (pc := 75) dX12_layAmiss_75 (by decide) rfl ?_
              refine v_iload (pc := 77) dX12_layAmiss_77 rfl ?_
              refine v_if_neN (pc := 79) (tgt := 85) (by have := w_com_lt h.1.2.1 g p a d; have := w_sum_lt (v := vw b g p) (MP_ok h.2) 0 a d; unfold w_off; omega) dX12_layAmiss_79 (by decide) (fun c79 => ?_) (fun c79 => ?_)
              · have hyes : w_amp (vw b g p) (w_pr d + a) = true := by rw [w_amp, hlg.1, hlg.2, w_am, vw_h, vw_h]; simp [c79]; exact ⟨fun e => c55 ((MGeq hX.1.2.2 (by omega)).mpr e), fun e => c63 ((MGeq hX.1.2.2 (by omega)).mpr e)⟩
                have hpr : w_pr d + a < 15 := by have := w_pr_s d (by omega) h1; have : w_pr (d + 1) ≤ 15 := w_pr_lt _ (by omega); omega
                refine v_aload_n (pc := 85) dX12_layAmiss_85 rfl rfl ?_
                refine v_dup (pc := 86) dX12_layAmiss_86 rfl ?_
                refine v_getV (pc := 87) fg_X12_90_12 dX12_layAmiss_87 (li_55 hL) hLC.2.1 ?_
                refine v_iconst (pc := 90) (v := nI 1) dX12_layAmiss_90 (by decide) ?_
                refine v_aload_n (pc := 91) dX12_layAmiss_91 rfl rfl ?_
                refine v_iload_n (pc := 92) dX12_layAmiss_92 rfl rfl ?_
                refine v_iload_n (pc := 93) dX12_layAmiss_93 rfl rfl ?_
                refine v_ci (pc := 94) (v_rV (c_X12_pairOf G l hL ⟨by omega, by omega, by omega⟩) rfl kV_X12_225 (v_rcO (li_55 hL) rfl (by decide)) ⟨Nat.le_of_ble_eq_true rfl, Nat.le_of_ble_eq_true rfl⟩ ⟨Nat.le_of_ble_eq_true rfl, Nat.le_of_ble_eq_true rfl⟩ dX12_layAmiss_94 (Nat.le_of_ble_eq_true rfl)) (fun x94 M94 h94 => ?_)
                obtain ⟨rfl, rfl⟩ := h94
                refine v_top (show nI (w_po a d) = nI (w_pr d + a) by rw [w_po, if_pos (by omega)]; rfl) ?_
                refine v_ishl (pc := 97) dX12_layAmiss_97 ?_
                refine v_top (v_shl1 _ (by have := w_pr_lt 6 (by omega); have := hpr; omega)) ?_
                refine v_ior (pc := 98) dX12_layAmiss_98 ?_
                refine v_top (nx_or _ _) ?_
                refine v_putI (pc := 99) pg_X12_90_12 (fun h => by cases h) dX12_layAmiss_99 (li_55 hL) rfl rfl ?_
                refine v_aload_n (pc := 102) dX12_layAmiss_102 rfl rfl ?_
                refine v_dup (pc := 103) dX12_layAmiss_103 rfl ?_
                refine v_getV (pc := 104) fg_X12_93_12 dX12_layAmiss_104 (li_55 hL) (show (_ : Int32) = nI (w_os (vw b g p) (w_pr d + a)) by rw [v_u_k (by decide)]; exact hLC.2.2.1) ?_
                refine v_iload (pc := 107) dX12_layAmiss_107 rfl ?_
                refine v_iaddN (pc := 109) dX12_layAmiss_109 ?_
                refine v_putI (pc := 110) pg_X12_93_12 (fun h => by cases h) dX12_layAmiss_110 (li_55 hL) rfl rfl ?_
                refine v_aload_n (pc := 113) dX12_layAmiss_113 rfl rfl ?_
                refine v_getH (pc := 114) fg_X12_96_12 dX12_layAmiss_114 (li_55 hL) (lr_55_28 hL) ?_
                refine v_iload_n (pc := 117) dX12_layAmiss_117 rfl rfl ?_
                refine v_dup2 (pc := 118) dX12_layAmiss_118 rfl rfl ?_
                refine v_ialoadN (pc := 119) dX12_layAmiss_119 (li_71 hL) ⟨by omega, by omega⟩ (show (_ : Int32) = nI (w_cp (vw b g p) (w_pr d + a) a) by rw [v_u_h (by decide), v_u_h (by decide)]; exact hLC.2.2.2 a (by omega)) ?_
                refine v_iconst (pc := 120) (v := nI 1) dX12_layAmiss_120 (by decide) ?_
                refine v_iaddN (pc := 121) dX12_layAmiss_121 ?_
                refine v_iastoreN (pc := 122) dX12_layAmiss_122 (li_71 hL) ⟨by omega, by omega⟩ ?_
                refine v_aload_n (pc := 123) dX12_layAmiss_123 rfl rfl ?_
                refine v_getH (pc := 124) fg_X12_96_12 dX12_layAmiss_124 (li_55 hL) (lr_55_28 hL) ?_
                refine v_iload_n (pc := 127) dX12_layAmiss_127 rfl rfl ?_
                refine v_dup2 (pc := 128) dX12_layAmiss_128 rfl rfl ?_
                refine v_ialoadN (pc := 129) dX12_layAmiss_129 (li_71 hL) ⟨by omega, by omega⟩ (show (_ : Int32) = nI (w_cp (vw b g p) (w_pr d + a) d) by rw [v_u_k (by omega), v_u_h (by decide), v_u_h (by decide)]; exact hLC.2.2.2 d (by omega)) ?_
                refine v_iconst (pc := 130) (v := nI 1) dX12_layAmiss_130 (by decide) ?_
                refine v_iaddN (pc := 131) dX12_layAmiss_131 ?_
                refine v_iastoreN (pc := 132) dX12_layAmiss_132 (li_71 hL) ⟨by omega, by omega⟩ ?_
                refine v_iincN (pc := 133) (b := 1) dX12_layAmiss_133 rfl (by decide) (by decide) rfl ?_
                refine v_iincN (pc := 136) (b := 1) dX12_layAmiss_136 rfl (by decide) (by decide) rfl ?_
                refine v_goto (pc := 139) (tgt := 45) dX12_layAmiss_139 (by decide) ?_
                first
                  | (have en : cnt (w_amp (vw b g p)) (w_pr d + (a + 1)) = cnt (w_amp (vw b g p)) (w_pr d + a) + 1 := (by simp [cnt, hyes, ← Nat.add_assoc]); have e := fun z => ih2 (a + 1) (by omega) (by omega) _ z (LA_1 hLC hyes hlg.1 hlg.2 (by omega)); simp only [en] at e; exact e _)
                  | (have en : cnt (w_amp (vw b g p)) (w_pr d + (a + 1)) = cnt (w_amp (vw b g p)) (w_pr d + a) := (by simp [cnt, hno, ← Nat.add_assoc]); have e := fun z => ih2 (a + 1) (by omega) (by omega) _ z (LA_0 hLC hno); simp only [en] at e; exact e _)
                  | (have en : cnt (w_amp (vw b g p)) (w_pr d + (a + 1)) = cnt (w_amp (vw b g p)) (w_pr d + a) := (by simp [cnt, hno, ← Nat.add_assoc]); have e := fun z => ih2 (a + 1) (by omega) (by omega) _ z (LA_0 hLB hno); simp only [en] at e; exact e _)
              · have hno : w_amp (vw b g p) (w_pr d + a) = false := by rw [w_amp, hlg.1, hlg.2, w_am]; simp [c79]
                refine v_goto (pc := 82) (tgt := 136) dX12_layAmiss_82 (by decide) ?_
                refine v_iincN (pc := 136) (b := 1) dX12_layAmiss_136 rfl (by decide) (by decide) rfl ?_
                refine v_goto (pc := 139) (tgt := 45) dX12_layAmiss_139 (by decide) ?_
                first
                  | (have en : cnt (w_amp (vw b g p)) (w_pr d + (a + 1)) = cnt (w_amp (vw b g p)) (w_pr d + a) + 1 := (by simp [cnt, hyes, ← Nat.add_assoc]); have e := fun z => ih2 (a + 1) (by omega) (by omega) _ z (LA_1 hLC hyes hlg.1 hlg.2 (by omega)); simp only [en] at e; exact e _)
                  | (have en : cnt (w_amp (vw b g p)) (w_pr d + (a + 1)) = cnt (w_amp (vw b g p)) (w_pr d + a) := (by simp [cnt, hno, ← Nat.add_assoc]); have e := fun z => ih2 (a + 1) (by omega) (by omega) _ z (LA_0 hLC hno); simp only [en] at e; exact e _)
                  | (have en : cnt (w_amp (vw b g p)) (w_pr d + (a + 1)) = cnt (w_amp (vw b g p)) (w_pr d + a) := (by simp [cnt, hno, ← Nat.add_assoc]); have e := fun z => ih2 (a + 1) (by omega) (by omega) _ z (LA_0 hLB hno); simp only [en] at e; exact e _)
            · have hno : w_amp (vw b g p) (w_pr d + a) = false := by rw [w_amp, hlg.1, hlg.2, w_am, vw_h, vw_h]; simp [(MGeq hX.1.2.2 (show d < 7 by omega)).mp c63]
              refine v_goto (pc := 66) (tgt := 136) dX12_layAmiss_66 (by decide) ?_
              refine v_iincN (pc := 136) (b := 1) dX12_layAmiss_136 rfl (by decide) (by decide) rfl ?_
              refine v_goto (pc := 139) (tgt := 45) dX12_layAmiss_139 (by decide) ?_
              first
                | (have en : cnt (w_amp (vw b g p)) (w_pr d + (a + 1)) = cnt (w_amp (vw b g p)) (w_pr d + a) + 1 := (by simp [cnt, hyes, ← Nat.add_assoc]); have e := fun z => ih2 (a + 1) (by omega) (by omega) _ z (LA_1 hLC hyes hlg.1 hlg.2 (by omega)); simp only [en] at e; exact e _)
                | (have en : cnt (w_amp (vw b g p)) (w_pr d + (a + 1)) = cnt (w_amp (vw b g p)) (w_pr d + a) := (by simp [cnt, hno, ← Nat.add_assoc]); have e := fun z => ih2 (a + 1) (by omega) (by omega) _ z (LA_0 hLC hno); simp only [en] at e; exact e _)
                | (have en : cnt (w_amp (vw b g p)) (w_pr d + (a + 1)) = cnt (w_amp (vw b g p)) (w_pr d + a) := (by simp [cnt, hno, ← Nat.add_assoc]); have e := fun z => ih2 (a + 1) (by omega) (by omega) _ z (LA_0 hLB hno); simp only [en] at e; exact e _)
      refine v_iconst (pc := 43) (v := nI 0) dX12_layAmiss_43 (by decide) ?_
      refine v_istore_n (pc := 44) dX12_layAmiss_44 rfl (by decide) rfl ?_
      exact inner 0 (by omega) Ii z4 hLA
  have loop0 : ∀ i, i ≤ 7 → v_V G l yX12_layAmiss cX12_layAmiss 5 (some .int) rm_X12_layAmiss (v_Qi G (fun (x : Int32) (M' : v_MM) => x = nI (w_many (vw b g p)) ∧ ∃ I', M' = (K, I', J, R) ∧ LA I I' (vw b g p) (w_pr (b_n b)))) 0 0 14 [some (.ref 55), some (.int (nI 0)), some (.int (nI i)), none, none] [] (K, v_to (v_u (v_u I 55 26 (nI 0)) 55 27 (nI 0)) 71 (fun _ => nI 0) i, J, R) := by
    refine v_down 7 (fun i hi ih => ?_)
    refine v_iload_n (pc := 14) dX12_layAmiss_14 rfl rfl ?_
    refine v_bipush (pc := 15) (v := nI 7) dX12_layAmiss_15 (by decide) ?_
    refine v_icmp_geN (pc := 17) (tgt := 33) ⟨by omega, by omega⟩ dX12_layAmiss_17 (by decide) (fun c17 => ?_) (fun c17 => ?_)
    · refine v_iconst (pc := 33) (v := nI 1) dX12_layAmiss_33 (by decide) ?_
      refine v_istore_n (pc := 34) dX12_layAmiss_34 rfl (by decide) rfl ?_
      have e7 : i = 7 := by omega
      subst e7
      refine outer 1 (by omega) _ _ _ (by omega) (Or.inr rfl) ⟨fun x z n => ?_, ?_, ?_, fun p hp => ?_⟩
      · have n1 : x ≠ 71 := fun e => n (Or.inr (Or.inl e))
        rw [v_to_h n1]
        by_cases hx : x = 55
        · subst hx
          have n2 : z ≠ 26 := fun e => n (Or.inr (Or.inr (Or.inr (Or.inr ⟨rfl, Or.inl e⟩))))
          have n3 : z ≠ 27 := fun e => n (Or.inr (Or.inr (Or.inr (Or.inr ⟨rfl, Or.inr (Or.inl e)⟩))))
          rw [v_u_k n3, v_u_k n2]
        · rw [v_u_h hx, v_u_h hx]
      · rw [v_to_h (by decide), v_u_k (by decide), v_u_same]; rfl
      · rw [v_to_h (by decide), v_u_same]; rfl
      · rw [v_to_lt hp]; rfl
    · refine v_aload_n (pc := 20) dX12_layAmiss_20 rfl rfl ?_
      refine v_getH (pc := 21) fg_X12_96_12 dX12_layAmiss_21 (li_55 hL) (lr_55_28 hL) ?_
      refine v_iload_n (pc := 24) dX12_layAmiss_24 rfl rfl ?_
      refine v_iconst (pc := 25) (v := nI 0) dX12_layAmiss_25 (by decide) ?_
      refine v_iastoreN (pc := 26) dX12_layAmiss_26 (li_71 hL) ⟨by omega, by omega⟩ ?_
      refine v_iincN (pc := 27) (b := 1) dX12_layAmiss_27 rfl (by decide) (by decide) rfl ?_
      refine v_goto (pc := 30) (tgt := 14) dX12_layAmiss_30 (by decide) ?_
      rw [v_to_s (by rfl)]
      exact ih (i + 1) (by omega) (by omega)
  refine v_aload_n (pc := 0) dX12_layAmiss_0 rfl rfl ?_
  refine v_iconst (pc := 1) (v := nI 0) dX12_layAmiss_1 (by decide) ?_
  refine v_putI (pc := 2) pg_X12_90_12 (fun h => by cases h) dX12_layAmiss_2 (li_55 hL) rfl rfl ?_
  refine v_aload_n (pc := 5) dX12_layAmiss_5 rfl rfl ?_
  refine v_iconst (pc := 6) (v := nI 0) dX12_layAmiss_6 (by decide) ?_
  refine v_putI (pc := 7) pg_X12_93_12 (fun h => by cases h) dX12_layAmiss_7 (li_55 hL) rfl rfl ?_
  refine v_iconst (pc := 10) (v := nI 0) dX12_layAmiss_10 (by decide) ?_
  refine v_istore_n (pc := 11) dX12_layAmiss_11 rfl (by decide) rfl ?_
  refine v_iconst (pc := 12) (v := nI 0) dX12_layAmiss_12 (by decide) ?_
  refine v_istore_n (pc := 13) dX12_layAmiss_13 rfl (by decide) rfl ?_
  have e0 := loop0 0 (by omega)
  rw [v_to_0] at e0
  exact e0
