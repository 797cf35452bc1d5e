/-! THE CLASS: what is amiss -/
def w_by (v : VW) (k : Nat) : Nat := if (w_h v (w_l k) && w_h v (w_g k)) = true then w_off v (w_l k) (w_g k) else 0
theorem w_by_amp (v : VW) (k : Nat) : w_by v k = if w_amp v k = true then w_off v (w_l k) (w_g k) else 0 := by
  unfold w_by w_amp w_am
  by_cases h : (w_h v (w_l k) && w_h v (w_g k)) = true
  · rw [if_pos h, h, Bool.true_and]
    by_cases e : w_off v (w_l k) (w_g k) = 0
    · simp [e]
    · simp [e]
  · rw [if_neg h]
    simp only [Bool.not_eq_true] at h
    rw [h]; rfl
theorem w_amp_by {v : VW} {k : Nat} : w_amp v k = true ↔ w_by v k ≠ 0 := by
  rw [w_by_amp]
  constructor
  · intro h
    rw [if_pos h]
    unfold w_amp w_am at h
    simp at h
    exact h.2
  · intro h
    apply Classical.byContradiction
    intro e
    exact h (if_neg e)
theorem TN_ok {K : Nat × v_TY} {I : Nat → Nat → Int32} {R : Nat → Nat → Option Nat} {r : Option Nat} {p : CLS} (h : TN K I R r p) : w_okp p := h.elim (fun z => by rw [z.2]; exact ⟨by decide, fun c hc => by cases hc⟩) (fun ⟨_, _, _, z⟩ => z.1)
theorem c_off_le {b : BS} {hm : Nat} {p : CLS} (hB : VB b) (ho : w_okp p) (a c : Nat) : w_com (c_vw b hm p) a c ≤ 18 ∧ w_sum (c_vw b hm p) 0 a c ≤ 990 ∧ w_off (c_vw b hm p) a c ≤ 1008 := by
  have h1 : w_com (c_vw b hm p) a c ≤ 3 * b_n b := c_cs_le hB a c (b_n b)
  have h2 := w_sum_lt (v := c_vw b hm p) ho 0 a c
  have := hB.1
  refine ⟨by omega, h2, ?_⟩
  unfold w_off; omega
theorem w_by_le {b : BS} {hm : Nat} {p : CLS} (hB : VB b) (ho : w_okp p) (k : Nat) : w_by (c_vw b hm p) k ≤ 1008 := by
  unfold w_by
  split
  · exact (c_off_le hB ho _ _).2.2
  · omega
theorem w_set_b (v : VW) : ∀ (k i : Nat), (w_set v k).testBit i = (decide (i < k) && w_amp v i)
  | 0, i => by show (0 : Nat).testBit i = _; simp
  | k + 1, i => by
    unfold w_set
    by_cases e : i = k
    · subst e
      have h0 : (w_set v i).testBit i = false := by rw [w_set_b v i i]; simp
      split
      · rename_i h; rw [Nat.testBit_or, h0, Nat.testBit_two_pow]; simp [h]
      · rename_i h; rw [h0]; simp at h; simp [h]
    · have e2 : decide (i < k + 1) = decide (i < k) := decide_eq_decide.mpr (by omega)
      rw [e2]
      split
      · rw [Nat.testBit_or, w_set_b v k i, Nat.testBit_two_pow]; simp [Ne.symm e]
      · exact w_set_b v k i
theorem cnt_up {f g : Nat → Bool} {k n : Nat} (hk : k ≤ n) (e : ∀ i, i < n → f i = (decide (i < k) && g i)) : cnt f n = cnt g k := by
  obtain ⟨d, rfl⟩ : ∃ d, n = k + d := ⟨n - k, by omega⟩
  rw [cnt_sp, cnt_c (g := g) (fun i hi => by rw [e i (by omega), decide_eq_true hi, Bool.true_and])]
  have : cnt (fun i => f (k + i)) d = cnt (fun _ => false) d := cnt_c (fun i hi => by rw [e _ (by omega), decide_eq_false (by omega), Bool.false_and])
  rw [this]
  have z : ∀ d, cnt (fun _ => false) d = 0 := fun d => by
    induction d with
    | zero => rfl
    | succ d ih => show cnt _ d + 0 = 0; rw [ih]
  rw [z]; rfl
theorem cnt_0 {f : Nat → Bool} : ∀ {n : Nat}, cnt f n = 0 ↔ ∀ j, j < n → f j = false
  | 0 => ⟨fun _ j hj => absurd hj (by omega), fun _ => rfl⟩
  | n + 1 => by
    show cnt f n + (if f n = true then 1 else 0) = 0 ↔ _
    have ih := cnt_0 (f := f) (n := n)
    constructor
    · intro h j hj
      have h2 : cnt f n = 0 := by omega
      rcases Nat.lt_succ_iff_lt_or_eq.mp hj with z | z
      · exact ih.mp h2 j z
      · subst z
        apply Classical.byContradiction
        intro e
        simp only [Bool.not_eq_false] at e
        rw [e] at h; simp at h
    · intro h
      rw [ih.mpr (fun j hj => h j (by omega)), h n (by omega)]; rfl
theorem w_set_15 (v : VW) {k : Nat} (h : k ≤ 15) : w_set v k < 32768 := Nat.lt_of_lt_of_le (w_set_lt v k) (Nat.pow_le_pow_right (n := 2) (by decide) h)
theorem pr15 {n : Nat} (h : n ≤ 6) : w_pr n ≤ 15 := w_pr_lt n (by omega)
abbrev rm_X9_amissBy : Room := { frames := 10, cells := 0, slots := 0, locals := 549 }
set_option maxRecDepth 20000 in
theorem c_X9_amissBy (G : v_G) (l : Launch) {K : Nat × v_TY} {I : Nat → Nat → Int32} {J : Nat → Nat → Int64} {R : Nat → Nat → Option Nat} (hL : Lay K R) {h : Nat} (hh : v_3 h) {k : Nat} {b : BS} {hm : Nat} {p : CLS} (hv : CV K I R h b hm p) (hk : k < 15) : v_M G l yX9_amissBy cX9_amissBy 2 (some .int) rm_X9_amissBy [.ref h, .int (nI k)] (K, I, J, R) (v_Qi G (fun (x : Int32) (M' : v_MM) => x = nI (w_by (c_vw b hm p) k) ∧ ∃ I', M' = (K, I', J, R) ∧ cF h I I')) := by
  refine v_of [some (.ref h), some (.int (nI k))] (by decide) (Nat.le_of_ble_eq_true rfl) (Nat.le_of_ble_eq_true rfl) rfl ?_
  have hV := VH_of hL hh
  have hB := hv.2.1
  have hn6 := hB.1
  have h15 := pr15 hn6
  have hok := TN_ok hv.2.2.2.2
  have hg := w_g_in k hk
  have hoff := c_off_le (hm := hm) hB hok (w_l k) (w_g k)
  refine v_aload_n (pc := 0) dX9_amissBy_0 rfl rfl ?_
  refine v_getV (pc := 1) fg_X9_56_9 dX9_amissBy_1 hV.1 hv.1.2.1 ?_
  refine v_gets (pc := 4) (i := 0) (nm := "LESSER") (by decide) (Or.inr gs_X9_95) dX9_amissBy_4 ?_
  refine v_iload_n (pc := 7) dX9_amissBy_7 rfl rfl ?_
  refine v_stN0 (pc := 8) dX9_amissBy_8 (by omega) ?_
  refine v_ci (pc := 9) (v_rSN (c_X11_hasBit G l (by omega)) rfl kSN_X9_82 ⟨Nat.le_of_ble_eq_true rfl, Nat.le_of_ble_eq_true rfl⟩ ⟨Nat.le_of_ble_eq_true rfl, Nat.le_of_ble_eq_true rfl⟩ dX9_amissBy_9 (Nat.le_of_ble_eq_true rfl)) (fun x9 M9 h9 => ?_)
  obtain ⟨rfl, rfl⟩ := h9
  refine v_if_eqP (pc := 12) (tgt := 30) dX9_amissBy_12 (by decide) (fun c12 => ?_) (fun c12 => ?_)
  · rw [w_bt (by omega)] at c12
    have er : w_by (c_vw b hm p) k = 0 := if_neg (fun z => c12 (by simp at z; exact z.1))
    refine v_iconst (pc := 30) (v := nI 0) dX9_amissBy_30 (by decide) ?_
    exact v_iret (pc := 31) dX9_amissBy_31 rfl rfl (Nat.le_of_ble_eq_true rfl) (Nat.le_of_ble_eq_true rfl) ⟨by first | (rw [er]; done) | (rw [er]; rfl), _, rfl, by first | exact cF_rf | exact fx40⟩
  · rw [w_bt (by omega)] at c12
    refine v_aload_n (pc := 15) dX9_amissBy_15 rfl rfl ?_
    refine v_getV (pc := 16) fg_X9_56_9 dX9_amissBy_16 hV.1 hv.1.2.1 ?_
    refine v_gets (pc := 19) (i := 1) (nm := "GREATER") (by decide) (Or.inr gs_X9_98) dX9_amissBy_19 ?_
    refine v_iload_n (pc := 22) dX9_amissBy_22 rfl rfl ?_
    refine v_stN1 (pc := 23) dX9_amissBy_23 (by omega) ?_
    refine v_ci (pc := 24) (v_rSN (c_X11_hasBit G l (by omega)) rfl kSN_X9_82 ⟨Nat.le_of_ble_eq_true rfl, Nat.le_of_ble_eq_true rfl⟩ ⟨Nat.le_of_ble_eq_true rfl, Nat.le_of_ble_eq_true rfl⟩ dX9_amissBy_24 (Nat.le_of_ble_eq_true rfl)) (fun x24 M24 h24 => ?_)
    obtain ⟨rfl, rfl⟩ := h24
    refine v_if_neP (pc := 27) (tgt := 32) dX9_amissBy_27 (by decide) (fun c27 => ?_) (fun c27 => ?_)
    · rw [w_bt (by omega)] at c27
      have er : w_by (c_vw b hm p) k = w_off (c_vw b hm p) (w_l k) (w_g k) := if_pos (by show (hm.testBit (w_l k) && hm.testBit (w_g k)) = true; rw [c12, c27]; rfl)
      refine v_aload_n (pc := 32) dX9_amissBy_32 rfl rfl ?_
      refine v_iload_n (pc := 33) dX9_amissBy_33 rfl rfl ?_
      refine v_ci (pc := 34) (v_rV (c_X9_commonOf G l hL hh hv hk) rfl kV_X9_130 (v_rcO hV.1 rfl (by decide)) ⟨Nat.le_of_ble_eq_true rfl, Nat.le_of_ble_eq_true rfl⟩ ⟨Nat.le_of_ble_eq_true rfl, Nat.le_of_ble_eq_true rfl⟩ dX9_amissBy_34 (Nat.le_of_ble_eq_true rfl)) (fun x34 M34 h34 => ?_)
      obtain ⟨rfl, rfl⟩ := h34
      refine v_aload_n (pc := 37) dX9_amissBy_37 rfl rfl ?_
      refine v_iconst (pc := 38) (v := nI 0) dX9_amissBy_38 (by decide) ?_
      refine v_iload_n (pc := 39) dX9_amissBy_39 rfl rfl ?_
      refine v_ci (pc := 40) (v_rV (c_X9_asTownSays G l hL hh (w := 0) hv (by decide) hk) rfl kV_X9_115 (v_rcO hV.1 rfl (by decide)) ⟨Nat.le_of_ble_eq_true rfl, Nat.le_of_ble_eq_true rfl⟩ ⟨Nat.le_of_ble_eq_true rfl, Nat.le_of_ble_eq_true rfl⟩ dX9_amissBy_40 (Nat.le_of_ble_eq_true rfl)) (fun x40 M40 h40 => ?_)
      obtain ⟨rfl, Ix40, rfl, fx40⟩ := h40
      refine v_isub (pc := 43) dX9_amissBy_43 ?_
      refine v_mabs (pc := 44) wg_499 ⟨Nat.le_of_ble_eq_true rfl, Nat.le_of_ble_eq_true rfl⟩ ⟨Nat.le_of_ble_eq_true rfl, Nat.le_of_ble_eq_true rfl⟩ dX9_amissBy_44 ?_
      refine v_top (v_absN ⟨by omega, by omega⟩) ?_
      exact v_iret (pc := 47) dX9_amissBy_47 rfl rfl (Nat.le_of_ble_eq_true rfl) (Nat.le_of_ble_eq_true rfl) ⟨by first | (rw [er]; done) | (rw [er]; rfl), _, rfl, by first | exact cF_rf | exact fx40⟩
    · rw [w_bt (by omega)] at c27
      have er : w_by (c_vw b hm p) k = 0 := if_neg (fun z => c27 (by simp at z; exact z.2))
      refine v_iconst (pc := 30) (v := nI 0) dX9_amissBy_30 (by decide) ?_
      exact v_iret (pc := 31) dX9_amissBy_31 rfl rfl (Nat.le_of_ble_eq_true rfl) (Nat.le_of_ble_eq_true rfl) ⟨by first | (rw [er]; done) | (rw [er]; rfl), _, rfl, by first | exact cF_rf | exact fx40⟩
abbrev rm_X9_amissBits : Room := { frames := 11, cells := 0, slots := 0, locals := 570 }
set_option maxRecDepth 20000 in
theorem c_X9_amissBits (G : v_G) (l : Launch) {K : Nat × v_TY} {I : Nat → Nat → Int32} {J : Nat → Nat → Int64} {R : Nat → Nat → Option Nat} (hL : Lay K R) {h : Nat} (hh : v_3 h) {b : BS} {hm : Nat} {p : CLS} (hv : CV K I R h b hm p) : v_M G l yX9_amissBits cX9_amissBits 3 (some .int) rm_X9_amissBits [.ref h] (K, I, J, R) (v_Qi G (fun (x : Int32) (M' : v_MM) => x = nI (w_set (c_vw b hm p) (w_pr (b_n b))) ∧ ∃ I', M' = (K, I', J, R) ∧ cF h I I')) := by
  refine v_of [some (.ref h), none, none] (by decide) (Nat.le_of_ble_eq_true rfl) (Nat.le_of_ble_eq_true rfl) rfl ?_
  have hV := VH_of hL hh
  have hB := hv.2.1
  have hn6 := hB.1
  have h15 := pr15 hn6
  have hok := TN_ok hv.2.2.2.2
  refine v_iconst (pc := 0) (v := nI 0) dX9_amissBits_0 (by decide) ?_
  refine v_istore_n (pc := 1) dX9_amissBits_1 rfl (by decide) rfl ?_
  refine v_iconst (pc := 2) (v := nI 0) dX9_amissBits_2 (by decide) ?_
  refine v_istore_n (pc := 3) dX9_amissBits_3 rfl (by decide) rfl ?_
  have key : ∀ i, i ≤ w_pr (b_n b) → ∀ Ii : Nat → Nat → Int32, cF h I Ii → v_V G l yX9_amissBits cX9_amissBits 3 (some .int) rm_X9_amissBits (v_Qi G (fun (x : Int32) (M' : v_MM) => x = nI (w_set (c_vw b hm p) (w_pr (b_n b))) ∧ ∃ I', M' = (K, I', J, R) ∧ cF h I I')) 0 0 4 [some (.ref h), some (.int (nI (w_set (c_vw b hm p) i))), some (.int (nI i))] [] (K, Ii, J, R) := by
    refine v_down (w_pr (b_n b)) (fun i hi ih => ?_)
    intro Ii hI
    have hvi := CV_F hv hh hI
    refine v_iload_n (pc := 4) dX9_amissBits_4 rfl rfl ?_
    refine v_aload_n (pc := 5) dX9_amissBits_5 rfl rfl ?_
    refine v_ci (pc := 6) (v_rV (c_X9_pairCount G l hL hh hvi.1.1 (by omega)) rfl kV_X9_92 (v_rcO hV.1 rfl (by decide)) ⟨Nat.le_of_ble_eq_true rfl, Nat.le_of_ble_eq_true rfl⟩ ⟨Nat.le_of_ble_eq_true rfl, Nat.le_of_ble_eq_true rfl⟩ dX9_amissBits_6 (Nat.le_of_ble_eq_true rfl)) (fun x6 M6 h6 => ?_)
    obtain ⟨rfl, rfl⟩ := h6
    refine v_icmp_geN (pc := 9) (tgt := 32) ⟨by omega, by omega⟩ dX9_amissBits_9 (by decide) (fun c9 => ?_) (fun c9 => ?_)
    · refine v_iload_n (pc := 32) dX9_amissBits_32 rfl rfl ?_
      exact v_iret (pc := 33) dX9_amissBits_33 rfl rfl (Nat.le_of_ble_eq_true rfl) (Nat.le_of_ble_eq_true rfl) ⟨by rw [show w_pr (b_n b) = i by omega], Ii, rfl, hI⟩
    · refine v_aload_n (pc := 12) dX9_amissBits_12 rfl rfl ?_
      refine v_iload_n (pc := 13) dX9_amissBits_13 rfl rfl ?_
      refine v_ci (pc := 14) (v_rV (c_X9_amissBy G l hL hh hvi (by omega)) rfl kV_X9_138 (v_rcO hV.1 rfl (by decide)) ⟨Nat.le_of_ble_eq_true rfl, Nat.le_of_ble_eq_true rfl⟩ ⟨Nat.le_of_ble_eq_true rfl, Nat.le_of_ble_eq_true rfl⟩ dX9_amissBits_14 (Nat.le_of_ble_eq_true rfl)) (fun x14 M14 h14 => ?_)
      obtain ⟨rfl, I14, rfl, f14⟩ := h14
      have hby := w_by_le (hm := hm) hB hok i
      have goon := ih (i + 1) (by omega) (by omega) I14 (cF_tr hI f14)
      have eg : w_set (c_vw b hm p) (i + 1) = if w_amp (c_vw b hm p) i = true then w_set (c_vw b hm p) i ||| 2 ^ i else w_set (c_vw b hm p) i := rfl
      rw [eg] at goon
      refine v_if_eqN (pc := 17) (tgt := 26) (by omega) dX9_amissBits_17 (by decide) (fun c17 => ?_) (fun c17 => ?_)
      · refine v_iincN (pc := 26) (b := 1) dX9_amissBits_26 rfl (by decide) (by decide) rfl ?_
        refine v_goto (pc := 29) (tgt := 4) dX9_amissBits_29 (by decide) ?_
        first
          | (rw [if_pos (w_amp_by.mpr c17)] at goon; exact goon)
          | (rw [if_neg (fun z => w_amp_by.mp z c17)] at goon; exact goon)
      · refine v_iload_n (pc := 20) dX9_amissBits_20 rfl rfl ?_
        refine v_iconst (pc := 21) (v := nI 1) dX9_amissBits_21 (by decide) ?_
        refine v_iload_n (pc := 22) dX9_amissBits_22 rfl rfl ?_
        refine v_ishl (pc := 23) dX9_amissBits_23 ?_
        refine v_top (v_shl1 _ (by omega)) ?_
        refine v_ior (pc := 24) dX9_amissBits_24 ?_
        refine v_top (nx_or _ _) ?_
        refine v_istore_n (pc := 25) dX9_amissBits_25 rfl (by decide) rfl ?_
        refine v_iincN (pc := 26) (b := 1) dX9_amissBits_26 rfl (by decide) (by decide) rfl ?_
        refine v_goto (pc := 29) (tgt := 4) dX9_amissBits_29 (by decide) ?_
        first
          | (rw [if_pos (w_amp_by.mpr c17)] at goon; exact goon)
          | (rw [if_neg (fun z => w_amp_by.mp z c17)] at goon; exact goon)
  exact key 0 (Nat.zero_le _) I cF_rf
abbrev rm_X9_howManyAmiss : Room := { frames := 12, cells := 0, slots := 0, locals := 592 }
set_option maxRecDepth 20000 in
theorem c_X9_howManyAmiss (G : v_G) (l : Launch) {K : Nat × v_TY} {I : Nat → Nat → Int32} {J : Nat → Nat → Int64} {R : Nat → Nat → Option Nat} (hL : Lay K R) {h : Nat} (hh : v_3 h) {b : BS} {hm : Nat} {p : CLS} (hv : CV K I R h b hm p) : v_M G l yX9_howManyAmiss cX9_howManyAmiss 1 (some .int) rm_X9_howManyAmiss [.ref h] (K, I, J, R) (v_Qi G (fun (x : Int32) (M' : v_MM) => x = nI (w_many (c_vw b hm p)) ∧ ∃ I', M' = (K, I', J, R) ∧ cF h I I')) := by
  refine v_of [some (.ref h)] (by decide) (Nat.le_of_ble_eq_true rfl) (Nat.le_of_ble_eq_true rfl) rfl ?_
  have hV := VH_of hL hh
  have hB := hv.2.1
  have hn6 := hB.1
  have h15 := pr15 hn6
  have hok := TN_ok hv.2.2.2.2
  refine v_aload_n (pc := 0) dX9_howManyAmiss_0 rfl rfl ?_
  refine v_ci (pc := 1) (v_rV (c_X9_amissBits G l hL hh hv) rfl kV_X9_141 (v_rcO hV.1 rfl (by decide)) ⟨Nat.le_of_ble_eq_true rfl, Nat.le_of_ble_eq_true rfl⟩ ⟨Nat.le_of_ble_eq_true rfl, Nat.le_of_ble_eq_true rfl⟩ dX9_howManyAmiss_1 (Nat.le_of_ble_eq_true rfl)) (fun x1 M1 h1 => ?_)
  obtain ⟨rfl, Ix1, rfl, fx1⟩ := h1
  refine v_ci (pc := 4) (v_rS (c_J6_bitCount_0f7a4 G l (w_set_15 (c_vw b hm p) h15)) rfl kS_X9_86 ⟨Nat.le_of_ble_eq_true rfl, Nat.le_of_ble_eq_true rfl⟩ ⟨Nat.le_of_ble_eq_true rfl, Nat.le_of_ble_eq_true rfl⟩ dX9_howManyAmiss_4 (Nat.le_of_ble_eq_true rfl)) (fun x4 M4 h4 => ?_)
  obtain ⟨rfl, rfl⟩ := h4
  exact v_iret (pc := 7) dX9_howManyAmiss_7 rfl rfl (Nat.le_of_ble_eq_true rfl) (Nat.le_of_ble_eq_true rfl) ⟨by rw [w_many, show w_n (c_vw b hm p) = b_n b from rfl, ← cnt_up h15 (fun i _ => w_set_b (c_vw b hm p) (w_pr (b_n b)) i)], _, rfl, fx1⟩
abbrev rm_X9_amissTogether : Room := { frames := 11, cells := 0, slots := 0, locals := 570 }
set_option maxRecDepth 20000 in
theorem c_X9_amissTogether (G : v_G) (l : Launch) {K : Nat × v_TY} {I : Nat → Nat → Int32} {J : Nat → Nat → Int64} {R : Nat → Nat → Option Nat} (hL : Lay K R) {h : Nat} (hh : v_3 h) {b : BS} {hm : Nat} {p : CLS} (hv : CV K I R h b hm p) : v_M G l yX9_amissTogether cX9_amissTogether 3 (some .int) rm_X9_amissTogether [.ref h] (K, I, J, R) (v_Qi G (fun (x : Int32) (M' : v_MM) => x = nI (w_os (c_vw b hm p) (w_pr (b_n b))) ∧ ∃ I', M' = (K, I', J, R) ∧ cF h I I')) := by
  refine v_of [some (.ref h), none, none] (by decide) (Nat.le_of_ble_eq_true rfl) (Nat.le_of_ble_eq_true rfl) rfl ?_
  have hV := VH_of hL hh
  have hB := hv.2.1
  have hn6 := hB.1
  have h15 := pr15 hn6
  have hok := TN_ok hv.2.2.2.2
  refine v_iconst (pc := 0) (v := nI 0) dX9_amissTogether_0 (by decide) ?_
  refine v_istore_n (pc := 1) dX9_amissTogether_1 rfl (by decide) rfl ?_
  refine v_iconst (pc := 2) (v := nI 0) dX9_amissTogether_2 (by decide) ?_
  refine v_istore_n (pc := 3) dX9_amissTogether_3 rfl (by decide) rfl ?_
  have key : ∀ i, i ≤ w_pr (b_n b) → ∀ Ii : Nat → Nat → Int32, cF h I Ii → v_V G l yX9_amissTogether cX9_amissTogether 3 (some .int) rm_X9_amissTogether (v_Qi G (fun (x : Int32) (M' : v_MM) => x = nI (w_os (c_vw b hm p) (w_pr (b_n b))) ∧ ∃ I', M' = (K, I', J, R) ∧ cF h I I')) 0 0 4 [some (.ref h), some (.int (nI (w_os (c_vw b hm p) i))), some (.int (nI i))] [] (K, Ii, J, R) := by
    refine v_down (w_pr (b_n b)) (fun i hi ih => ?_)
    intro Ii hI
    have hvi := CV_F hv hh hI
    refine v_iload_n (pc := 4) dX9_amissTogether_4 rfl rfl ?_
    refine v_aload_n (pc := 5) dX9_amissTogether_5 rfl rfl ?_
    refine v_ci (pc := 6) (v_rV (c_X9_pairCount G l hL hh hvi.1.1 (by omega)) rfl kV_X9_92 (v_rcO hV.1 rfl (by decide)) ⟨Nat.le_of_ble_eq_true rfl, Nat.le_of_ble_eq_true rfl⟩ ⟨Nat.le_of_ble_eq_true rfl, Nat.le_of_ble_eq_true rfl⟩ dX9_amissTogether_6 (Nat.le_of_ble_eq_true rfl)) (fun x6 M6 h6 => ?_)
    obtain ⟨rfl, rfl⟩ := h6
    refine v_icmp_geN (pc := 9) (tgt := 26) ⟨by omega, by omega⟩ dX9_amissTogether_9 (by decide) (fun c9 => ?_) (fun c9 => ?_)
    · refine v_iload_n (pc := 26) dX9_amissTogether_26 rfl rfl ?_
      exact v_iret (pc := 27) dX9_amissTogether_27 rfl rfl (Nat.le_of_ble_eq_true rfl) (Nat.le_of_ble_eq_true rfl) ⟨by rw [show w_pr (b_n b) = i by omega], Ii, rfl, hI⟩
    · refine v_iload_n (pc := 12) dX9_amissTogether_12 rfl rfl ?_
      refine v_aload_n (pc := 13) dX9_amissTogether_13 rfl rfl ?_
      refine v_iload_n (pc := 14) dX9_amissTogether_14 rfl rfl ?_
      refine v_ci (pc := 15) (v_rV (c_X9_amissBy G l hL hh hvi (by omega)) rfl kV_X9_138 (v_rcO hV.1 rfl (by decide)) ⟨Nat.le_of_ble_eq_true rfl, Nat.le_of_ble_eq_true rfl⟩ ⟨Nat.le_of_ble_eq_true rfl, Nat.le_of_ble_eq_true rfl⟩ dX9_amissTogether_15 (Nat.le_of_ble_eq_true rfl)) (fun x15 M15 h15 => ?_)
      obtain ⟨rfl, I14, rfl, f14⟩ := h15
      have goon := ih (i + 1) (by omega) (by omega) I14 (cF_tr hI f14)
      have eg : w_os (c_vw b hm p) (i + 1) = w_os (c_vw b hm p) i + (if w_amp (c_vw b hm p) i = true then w_off (c_vw b hm p) (w_l i) (w_g i) else 0) := rfl
      rw [eg, ← w_by_amp] at goon
      refine v_iaddN (pc := 18) dX9_amissTogether_18 ?_
      refine v_istore_n (pc := 19) dX9_amissTogether_19 rfl (by decide) rfl ?_
      refine v_iincN (pc := 20) (b := 1) dX9_amissTogether_20 rfl (by decide) (by decide) rfl ?_
      refine v_goto (pc := 23) (tgt := 4) dX9_amissTogether_23 (by decide) ?_
      exact goon
  exact key 0 (Nat.zero_le _) I cF_rf
abbrev rm_X9_isAllRight : Room := { frames := 11, cells := 0, slots := 0, locals := 570 }
set_option maxRecDepth 20000 in
theorem c_X9_isAllRight (G : v_G) (l : Launch) {K : Nat × v_TY} {I : Nat → Nat → Int32} {J : Nat → Nat → Int64} {R : Nat → Nat → Option Nat} (hL : Lay K R) {h : Nat} (hh : v_3 h) {b : BS} {hm : Nat} {p : CLS} (hv : CV K I R h b hm p) : v_M G l yX9_isAllRight cX9_isAllRight 2 (some .boolean) rm_X9_isAllRight [.ref h] (K, I, J, R) (v_Qi G (fun (x : Int32) (M' : v_MM) => x = v_p (w_many (c_vw b hm p) = 0) ∧ ∃ I', M' = (K, I', J, R) ∧ cF h I I')) := by
  refine v_of [some (.ref h), none] (by decide) (Nat.le_of_ble_eq_true rfl) (Nat.le_of_ble_eq_true rfl) rfl ?_
  have hV := VH_of hL hh
  have hB := hv.2.1
  have hn6 := hB.1
  have h15 := pr15 hn6
  have hok := TN_ok hv.2.2.2.2
  refine v_iconst (pc := 0) (v := nI 0) dX9_isAllRight_0 (by decide) ?_
  refine v_istore_n (pc := 1) dX9_isAllRight_1 rfl (by decide) rfl ?_
  have key : ∀ i, i ≤ w_pr (b_n b) → ∀ Ii : Nat → Nat → Int32, cF h I Ii → (∀ j, j < i → w_amp (c_vw b hm p) j = false) → v_V G l yX9_isAllRight cX9_isAllRight 2 (some .boolean) rm_X9_isAllRight (v_Qi G (fun (x : Int32) (M' : v_MM) => x = v_p (w_many (c_vw b hm p) = 0) ∧ ∃ I', M' = (K, I', J, R) ∧ cF h I I')) 0 0 2 [some (.ref h), some (.int (nI i))] [] (K, Ii, J, R) := by
    refine v_down (w_pr (b_n b)) (fun i hi ih => ?_)
    intro Ii hI hal
    have hvi := CV_F hv hh hI
    refine v_iload_n (pc := 2) dX9_isAllRight_2 rfl rfl ?_
    refine v_aload_n (pc := 3) dX9_isAllRight_3 rfl rfl ?_
    refine v_ci (pc := 4) (v_rV (c_X9_pairCount G l hL hh hvi.1.1 (by omega)) rfl kV_X9_92 (v_rcO hV.1 rfl (by decide)) ⟨Nat.le_of_ble_eq_true rfl, Nat.le_of_ble_eq_true rfl⟩ ⟨Nat.le_of_ble_eq_true rfl, Nat.le_of_ble_eq_true rfl⟩ dX9_isAllRight_4 (Nat.le_of_ble_eq_true rfl)) (fun x4 M4 h4 => ?_)
    obtain ⟨rfl, rfl⟩ := h4
    refine v_icmp_geN (pc := 7) (tgt := 26) ⟨by omega, by omega⟩ dX9_isAllRight_7 (by decide) (fun c7 => ?_) (fun c7 => ?_)
    · refine v_iconst (pc := 26) (v := nI 1) dX9_isAllRight_26 (by decide) ?_
      exact v_iret (pc := 27) dX9_isAllRight_27 rfl rfl (Nat.le_of_ble_eq_true rfl) (Nat.le_of_ble_eq_true rfl) ⟨by first | exact v_pz (fun z => by have := cnt_0.mp z i (by show i < w_pr (b_n b); omega); rw [w_amp_by.mpr c15] at this; cases this) | exact v_po (cnt_0.mpr (fun j hj => hal j (by have : j < w_pr (b_n b) := hj; omega))), _, rfl, by first | exact hI | exact cF_tr hI f14⟩
    · refine v_aload_n (pc := 10) dX9_isAllRight_10 rfl rfl ?_
      refine v_iload_n (pc := 11) dX9_isAllRight_11 rfl rfl ?_
      refine v_ci (pc := 12) (v_rV (c_X9_amissBy G l hL hh hvi (by omega)) rfl kV_X9_138 (v_rcO hV.1 rfl (by decide)) ⟨Nat.le_of_ble_eq_true rfl, Nat.le_of_ble_eq_true rfl⟩ ⟨Nat.le_of_ble_eq_true rfl, Nat.le_of_ble_eq_true rfl⟩ dX9_isAllRight_12 (Nat.le_of_ble_eq_true rfl)) (fun x12 M12 h12 => ?_)
      obtain ⟨rfl, I14, rfl, f14⟩ := h12
      have hby := w_by_le (hm := hm) hB hok i
      refine v_if_eqN (pc := 15) (tgt := 20) (by omega) dX9_isAllRight_15 (by decide) (fun c15 => ?_) (fun c15 => ?_)
      · refine v_iincN (pc := 20) (b := 1) dX9_isAllRight_20 rfl (by decide) (by decide) rfl ?_
        refine v_goto (pc := 23) (tgt := 2) dX9_isAllRight_23 (by decide) ?_
        exact ih (i + 1) (by omega) (by omega) I14 (cF_tr hI f14) (fun j hj => by rcases Nat.lt_succ_iff_lt_or_eq.mp hj with z | z; exact hal j z; subst z; exact Bool.eq_false_iff.mpr (fun z => w_amp_by.mp z c15))
      · refine v_iconst (pc := 18) (v := nI 0) dX9_isAllRight_18 (by decide) ?_
        exact v_iret (pc := 19) dX9_isAllRight_19 rfl rfl (Nat.le_of_ble_eq_true rfl) (Nat.le_of_ble_eq_true rfl) ⟨by first | exact v_pz (fun z => by have := cnt_0.mp z i (by show i < w_pr (b_n b); omega); rw [w_amp_by.mpr c15] at this; cases this) | exact v_po (cnt_0.mpr (fun j hj => hal j (by have : j < w_pr (b_n b) := hj; omega))), _, rfl, by first | exact hI | exact cF_tr hI f14⟩
  exact key 0 (Nat.zero_le _) I cF_rf (fun j hj => absurd hj (by omega))
abbrev rm_X11_complainsAmong : Room := { frames := 1, cells := 0, slots := 0, locals := 21 }
set_option maxRecDepth 20000 in
theorem c_X11_complainsAmong (G : v_G) (l : Launch) {K : Nat × v_TY} {I : Nat → Nat → Int32} {J : Nat → Nat → Int64} {R : Nat → Nat → Option Nat} {S i : Nat} (hS : S < 32768 ∧ i < 100) : v_M G l yX11_complainsAmong cX11_complainsAmong 4 (some .int) rm_X11_complainsAmong [.int (nI S), .int (nI i)] (K, I, J, R) (v_Qi G (fun (x : Int32) (M' : v_MM) => x = nI (cnt (fun k => S.testBit k && (decide (w_l k = i) || decide (w_g k = i))) 15) ∧ M' = (K, I, J, R))) := by
  refine v_of [some (.int (nI S)), some (.int (nI i)), none, none] (by decide) (Nat.le_of_ble_eq_true rfl) (Nat.le_of_ble_eq_true rfl) rfl ?_
  refine v_iconst (pc := 0) (v := nI 0) dX11_complainsAmong_0 (by decide) ?_
  refine v_istore_n (pc := 1) dX11_complainsAmong_1 rfl (by decide) rfl ?_
  refine v_iconst (pc := 2) (v := nI 0) dX11_complainsAmong_2 (by decide) ?_
  refine v_istore_n (pc := 3) dX11_complainsAmong_3 rfl (by decide) rfl ?_
  have key : ∀ q, q ≤ 15 → v_V G l yX11_complainsAmong cX11_complainsAmong 4 (some .int) rm_X11_complainsAmong (v_Qi G (fun (x : Int32) (M' : v_MM) => x = nI (cnt (fun k => S.testBit k && (decide (w_l k = i) || decide (w_g k = i))) 15) ∧ M' = (K, I, J, R))) 0 0 4 [some (.int (nI S)), some (.int (nI i)), some (.int (nI (cnt (fun k => S.testBit k && (decide (w_l k = i) || decide (w_g k = i))) q))), some (.int (nI q))] [] (K, I, J, R) := by
    refine v_down 15 (fun q hq ih => ?_)
    refine v_iload_n (pc := 4) dX11_complainsAmong_4 rfl rfl ?_
    refine v_bipush (pc := 5) (v := nI 15) dX11_complainsAmong_5 (by decide) ?_
    refine v_icmp_geN (pc := 7) (tgt := 45) ⟨by omega, by omega⟩ dX11_complainsAmong_7 (by decide) (fun c7 => ?_) (fun c7 => ?_)
    · refine v_iload_n (pc := 45) dX11_complainsAmong_45 rfl rfl ?_
      exact v_iret (pc := 46) dX11_complainsAmong_46 rfl rfl (Nat.le_of_ble_eq_true rfl) (Nat.le_of_ble_eq_true rfl) ⟨by rw [show (15 : Nat) = q by omega], rfl⟩
    · have hg := w_g_in q (by omega)
      have goon := ih (q + 1) (by omega) (by omega)
      have eg : (cnt (fun k => S.testBit k && (decide (w_l k = i) || decide (w_g k = i))) (q + 1)) = (cnt (fun k => S.testBit k && (decide (w_l k = i) || decide (w_g k = i))) q) + (if (S.testBit q && (decide (w_l q = i) || decide (w_g q = i))) = true then 1 else 0) := rfl
      rw [eg] at goon
      refine v_iload_n (pc := 10) dX11_complainsAmong_10 rfl rfl ?_
      refine v_iload_n (pc := 11) dX11_complainsAmong_11 rfl rfl ?_
      refine v_ci (pc := 12) (v_rS (c_X11_hasBit G l (by omega)) rfl kS_X11_198 ⟨Nat.le_of_ble_eq_true rfl, Nat.le_of_ble_eq_true rfl⟩ ⟨Nat.le_of_ble_eq_true rfl, Nat.le_of_ble_eq_true rfl⟩ dX11_complainsAmong_12 (Nat.le_of_ble_eq_true rfl)) (fun x12 M12 h12 => ?_)
      obtain ⟨rfl, rfl⟩ := h12
      refine v_if_eqP (pc := 15) (tgt := 39) dX11_complainsAmong_15 (by decide) (fun c15 => ?_) (fun c15 => ?_)
      · rw [w_bt (by omega)] at c15
        refine v_iincN (pc := 39) (b := 1) dX11_complainsAmong_39 rfl (by decide) (by decide) rfl ?_
        refine v_goto (pc := 42) (tgt := 4) dX11_complainsAmong_42 (by decide) ?_
        first
          | (rw [if_pos (by rw [c15, decide_eq_true c24]; rfl)] at goon; exact goon)
          | (rw [if_pos (by rw [c15, decide_eq_true c33, Bool.or_true]; rfl)] at goon; exact goon)
          | (rw [if_neg (fun z => by simp at z; rcases z.2 with y | y; exact c24 y; exact c33 y), Nat.add_zero] at goon; exact goon)
          | (rw [if_neg (fun z => by simp at z; exact c15 z.1), Nat.add_zero] at goon; exact goon)
      · rw [w_bt (by omega)] at c15
        refine v_gets (pc := 18) (i := 0) (nm := "LESSER") (by decide) (Or.inl gs_X11_134) dX11_complainsAmong_18 ?_
        refine v_iload_n (pc := 21) dX11_complainsAmong_21 rfl rfl ?_
        refine v_stN0 (pc := 22) dX11_complainsAmong_22 (by omega) ?_
        refine v_iload_n (pc := 23) dX11_complainsAmong_23 rfl rfl ?_
        refine v_icmp_eqN (pc := 24) (tgt := 36) ⟨by omega, by omega⟩ dX11_complainsAmong_24 (by decide) (fun c24 => ?_) (fun c24 => ?_)
        · refine v_iincN (pc := 36) (b := 1) dX11_complainsAmong_36 rfl (by decide) (by decide) rfl ?_
          refine v_iincN (pc := 39) (b := 1) dX11_complainsAmong_39 rfl (by decide) (by decide) rfl ?_
          refine v_goto (pc := 42) (tgt := 4) dX11_complainsAmong_42 (by decide) ?_
          first
            | (rw [if_pos (by rw [c15, decide_eq_true c24]; rfl)] at goon; exact goon)
            | (rw [if_pos (by rw [c15, decide_eq_true c33, Bool.or_true]; rfl)] at goon; exact goon)
            | (rw [if_neg (fun z => by simp at z; rcases z.2 with y | y; exact c24 y; exact c33 y), Nat.add_zero] at goon; exact goon)
            | (rw [if_neg (fun z => by simp at z; exact c15 z.1), Nat.add_zero] at goon; exact goon)
        · refine v_gets (pc := 27) (i := 1) (nm := "GREATER") (by decide) (Or.inl gs_X11_137) dX11_complainsAmong_27 ?_
          refine v_iload_n (pc := 30) dX11_complainsAmong_30 rfl rfl ?_
          refine v_stN1 (pc := 31) dX11_complainsAmong_31 (by omega) ?_
          refine v_iload_n (pc := 32) dX11_complainsAmong_32 rfl rfl ?_
          refine v_icmp_neN (pc := 33) (tgt := 39) ⟨by omega, by omega⟩ dX11_complainsAmong_33 (by decide) (fun c33 => ?_) (fun c33 => ?_)
          · refine v_iincN (pc := 39) (b := 1) dX11_complainsAmong_39 rfl (by decide) (by decide) rfl ?_
            refine v_goto (pc := 42) (tgt := 4) dX11_complainsAmong_42 (by decide) ?_
            first
              | (rw [if_pos (by rw [c15, decide_eq_true c24]; rfl)] at goon; exact goon)
              | (rw [if_pos (by rw [c15, decide_eq_true c33, Bool.or_true]; rfl)] at goon; exact goon)
              | (rw [if_neg (fun z => by simp at z; rcases z.2 with y | y; exact c24 y; exact c33 y), Nat.add_zero] at goon; exact goon)
              | (rw [if_neg (fun z => by simp at z; exact c15 z.1), Nat.add_zero] at goon; exact goon)
          · refine v_iincN (pc := 36) (b := 1) dX11_complainsAmong_36 rfl (by decide) (by decide) rfl ?_
            refine v_iincN (pc := 39) (b := 1) dX11_complainsAmong_39 rfl (by decide) (by decide) rfl ?_
            refine v_goto (pc := 42) (tgt := 4) dX11_complainsAmong_42 (by decide) ?_
            first
              | (rw [if_pos (by rw [c15, decide_eq_true c24]; rfl)] at goon; exact goon)
              | (rw [if_pos (by rw [c15, decide_eq_true c33, Bool.or_true]; rfl)] at goon; exact goon)
              | (rw [if_neg (fun z => by simp at z; rcases z.2 with y | y; exact c24 y; exact c33 y), Nat.add_zero] at goon; exact goon)
              | (rw [if_neg (fun z => by simp at z; exact c15 z.1), Nat.add_zero] at goon; exact goon)
  exact key 0 (Nat.zero_le _)
theorem w_cp_ca {v : VW} {k i : Nat} (hk : k ≤ 15) : (cnt (fun q => (w_set v k).testBit q && (decide (w_l q = i) || decide (w_g q = i))) 15) = w_cp v k i := cnt_up hk (fun q _ => by rw [w_set_b, Bool.and_assoc])
theorem w_cp_le (v : VW) (k i : Nat) : w_cp v k i ≤ k := cnt_le _ _
abbrev rm_X9_isAsComplained : Room := { frames := 12, cells := 0, slots := 0, locals := 592 }
set_option maxRecDepth 20000 in
theorem c_X9_isAsComplained (G : v_G) (l : Launch) {K : Nat × v_TY} {I : Nat → Nat → Int32} {J : Nat → Nat → Int64} {R : Nat → Nat → Option Nat} (hL : Lay K R) {h : Nat} (hh : v_3 h) {b : BS} {hm : Nat} {p : CLS} (hv : CV K I R h b hm p) {cm : Nat → Nat} (hcm : ∀ i, i < 6 → I (h + 4) i = nI (cm i) ∧ cm i < 100) : v_M G l yX9_isAsComplained cX9_isAsComplained 3 (some .boolean) rm_X9_isAsComplained [.ref h] (K, I, J, R) (v_Qi G (fun (x : Int32) (M' : v_MM) => x = v_p (w_told (c_vw b hm p) cm (b_n b) = true) ∧ ∃ I', M' = (K, I', J, R) ∧ cF h I I')) := by
  refine v_of [some (.ref h), none, none] (by decide) (Nat.le_of_ble_eq_true rfl) (Nat.le_of_ble_eq_true rfl) rfl ?_
  have hV := VH_of hL hh
  have hB := hv.2.1
  have hn6 := hB.1
  have h15 := pr15 hn6
  have hok := TN_ok hv.2.2.2.2
  refine v_aload_n (pc := 0) dX9_isAsComplained_0 rfl rfl ?_
  refine v_ci (pc := 1) (v_rV (c_X9_amissBits G l hL hh hv) rfl kV_X9_141 (v_rcO hV.1 rfl (by decide)) ⟨Nat.le_of_ble_eq_true rfl, Nat.le_of_ble_eq_true rfl⟩ ⟨Nat.le_of_ble_eq_true rfl, Nat.le_of_ble_eq_true rfl⟩ dX9_isAsComplained_1 (Nat.le_of_ble_eq_true rfl)) (fun x1 M1 h1 => ?_)
  obtain ⟨rfl, I1, rfl, f1⟩ := h1
  have hvi := CV_F hv hh f1
  refine v_istore_n (pc := 4) dX9_isAsComplained_4 rfl (by decide) rfl ?_
  refine v_iconst (pc := 5) (v := nI 0) dX9_isAsComplained_5 (by decide) ?_
  refine v_istore_n (pc := 6) dX9_isAsComplained_6 rfl (by decide) rfl ?_
  have key : ∀ i, i ≤ b_n b → (∀ j, j < i → w_cp (c_vw b hm p) (w_pr (b_n b)) j = cm j) → v_V G l yX9_isAsComplained cX9_isAsComplained 3 (some .boolean) rm_X9_isAsComplained (v_Qi G (fun (x : Int32) (M' : v_MM) => x = v_p (w_told (c_vw b hm p) cm (b_n b) = true) ∧ ∃ I', M' = (K, I', J, R) ∧ cF h I I')) 0 0 7 [some (.ref h), some (.int (nI (w_set (c_vw b hm p) (w_pr (b_n b))))), some (.int (nI i))] [] (K, I1, J, R) := by
    refine v_down (b_n b) (fun i hi ih => ?_)
    intro hal
    refine v_iload_n (pc := 7) dX9_isAsComplained_7 rfl rfl ?_
    refine v_aload_n (pc := 8) dX9_isAsComplained_8 rfl rfl ?_
    refine v_getV (pc := 9) fg_X9_52_9 dX9_isAsComplained_9 hV.1 hvi.1.1 ?_
    refine v_icmp_geN (pc := 12) (tgt := 37) ⟨by omega, by omega⟩ dX9_isAsComplained_12 (by decide) (fun c12 => ?_) (fun c12 => ?_)
    · refine v_iconst (pc := 37) (v := nI 1) dX9_isAsComplained_37 (by decide) ?_
      exact v_iret (pc := 38) dX9_isAsComplained_38 rfl rfl (Nat.le_of_ble_eq_true rfl) (Nat.le_of_ble_eq_true rfl) ⟨by first | exact v_pz (fun z => c26 (of_decide_eq_true (al_iff.mp z i (by omega)))) | exact v_po (al_iff.mpr (fun j hj => decide_eq_true (hal j (by omega)))), _, rfl, f1⟩
    · refine v_iload_n (pc := 15) dX9_isAsComplained_15 rfl rfl ?_
      refine v_iload_n (pc := 16) dX9_isAsComplained_16 rfl rfl ?_
      refine v_ci (pc := 17) (v_rSN (c_X11_complainsAmong G l ⟨w_set_15 (c_vw b hm p) h15, by omega⟩) rfl kSN_X9_144 ⟨Nat.le_of_ble_eq_true rfl, Nat.le_of_ble_eq_true rfl⟩ ⟨Nat.le_of_ble_eq_true rfl, Nat.le_of_ble_eq_true rfl⟩ dX9_isAsComplained_17 (Nat.le_of_ble_eq_true rfl)) (fun x17 M17 h17 => ?_)
      obtain ⟨rfl, rfl⟩ := h17
      rw [w_cp_ca h15]
      have hcl := w_cp_le (c_vw b hm p) (w_pr (b_n b)) i
      have hci := hcm i (by omega)
      refine v_aload_n (pc := 20) dX9_isAsComplained_20 rfl rfl ?_
      refine v_getH (pc := 21) fg_X9_24_9 dX9_isAsComplained_21 hV.1 hV.2.2.2.2.2.1 ?_
      refine v_iload_n (pc := 24) dX9_isAsComplained_24 rfl rfl ?_
      refine v_ialoadN (pc := 25) dX9_isAsComplained_25 hV.2.1.2.2.2.1 ⟨by omega, by omega⟩ ((f1 _ _ (by omega)).trans hci.1) ?_
      refine v_icmp_eqN (pc := 26) (tgt := 31) ⟨by omega, by omega⟩ dX9_isAsComplained_26 (by decide) (fun c26 => ?_) (fun c26 => ?_)
      · refine v_iincN (pc := 31) (b := 1) dX9_isAsComplained_31 rfl (by decide) (by decide) rfl ?_
        refine v_goto (pc := 34) (tgt := 7) dX9_isAsComplained_34 (by decide) ?_
        exact ih (i + 1) (by omega) (by omega) (fun j hj => by rcases Nat.lt_succ_iff_lt_or_eq.mp hj with z | z; exact hal j z; subst z; exact c26)
      · refine v_iconst (pc := 29) (v := nI 0) dX9_isAsComplained_29 (by decide) ?_
        exact v_iret (pc := 30) dX9_isAsComplained_30 rfl rfl (Nat.le_of_ble_eq_true rfl) (Nat.le_of_ble_eq_true rfl) ⟨by first | exact v_pz (fun z => c26 (of_decide_eq_true (al_iff.mp z i (by omega)))) | exact v_po (al_iff.mpr (fun j hj => decide_eq_true (hal j (by omega)))), _, rfl, f1⟩
  exact key 0 (Nat.zero_le _) (fun j hj => absurd hj (by omega))
