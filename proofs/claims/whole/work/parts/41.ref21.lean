/-! THE REFERENCE: befriends -/
theorem w_lay_h {I : Nat → Nat → Int32} {p a z : Nat} {k n : Int32} (hn : a ≠ 56 ∧ a ≠ 57 ∧ a ≠ 60 ∧ a ≠ 58 ∧ a ≠ 59) : w_lay I p k n a z = I a z := by
  obtain ⟨n1, n2, n3, n4, n5⟩ := hn
  simp [w_lay, n1, n2, n3, n4, n5]
theorem w_clr2 {b : BS} (h : VB b) {k v q : Nat} (hn : b_n b < 6) (hq : q < 2 ^ b_n b) (i : Nat) (hi : i ≠ b_n b) : b_m (b_jn b k v q) i &&& (127 - 2 ^ b_n b) = b_m b i := by
  apply Nat.eq_of_testBit_eq
  intro j
  rw [Nat.testBit_and, b_jn_b h hq]
  by_cases hj : j < 7
  · rw [w_cm _ (by omega) j hj, decide_eq_false hi]
    by_cases e : j = b_n b
    · subst e
      rw [h.2.2.2.2.2.2.2.2 i _ (Nat.le_refl _)]
      simp
    · simp [e]
  · have : (127 - 2 ^ b_n b).testBit j = false := Nat.testBit_lt_two_pow (Nat.lt_of_lt_of_le (show 127 - 2 ^ b_n b < 2 ^ 7 by omega) (Nat.pow_le_pow_right (by decide) (by omega)))
    rw [this, h.2.2.2.2.2.2.2.2 i j (by omega)]
    simp
theorem b_jn_lt {b : BS} (h : VB b) {k v q : Nat} (hn : b_n b < 6) (hk : k ≤ 6) (hv : v ≤ 9) (hq : q < 2 ^ b_n b) (i : Nat) : b_m (b_jn b k v q) i < 128 := Nat.lt_trans ((VB_jn h hn hk hv hq).2.2.2.2.1 i) (by decide)
theorem b_jn_0 {b : BS} {k v i : Nat} (hi : i ≠ b_n b) : b_m (b_jn b k v 0) i = b_m b i := by
  show (if i = b_n b then 0 else if (0 : Nat).testBit i = true then b_m b i ||| 2 ^ b_n b else b_m b i) = _
  rw [if_neg hi, if_neg (by rw [Nat.zero_testBit]; decide)]
theorem MW_lay {I : Nat → Nat → Int32} {b : BS} {p : CLS} {cm : Nat → Nat} {k v : Nat} (h : MW I b 9 p) (hz : VZ b cm) (hn : b_n b < 6) (hk : k ≤ 6) (hv : v ≤ 9) : MW (v_u (w_lay I (b_n b) (nI k) (nI v)) 55 0 (nI (b_n b + 1))) (b_jn b k v 0) 9 p := by
  have hB := h.1.2.1
  have h2 : 0 < 2 ^ b_n b := Nat.two_pow_pos _
  have e55 : ∀ z, z ≠ 0 → v_u (w_lay I (b_n b) (nI k) (nI v)) 55 0 (nI (b_n b + 1)) 55 z = I 55 z := fun z hz => by rw [v_u_k hz, w_lay_h (by decide)]
  have eh : ∀ a z, a ≠ 55 → v_u (w_lay I (b_n b) (nI k) (nI v)) 55 0 (nI (b_n b + 1)) a z = w_lay I (b_n b) (nI k) (nI v) a z := fun a z ha => v_u_h ha
  refine ⟨⟨⟨v_u_same, (show _ = nI (b_y b) from (e55 _ (by decide)).trans (MVy h.1)), fun i hi => ?_, fun i hi => ?_, fun i hi => ?_, fun j hj => ?_⟩, VB_jn hB hn hk hv h2, Or.inr ⟨rfl, (e55 _ (by decide)).trans (MG9 h.1.2.2)⟩⟩, ?_⟩
  · rw [eh _ _ (by decide)]
    show _ = nI (if i = b_n b then k else b_k b i)
    by_cases e : i = b_n b
    · rw [if_pos e]; simp [w_lay, e]
    · rw [if_neg e]; simp [w_lay, e, MVk h.1 hi]
  · rw [eh _ _ (by decide)]
    show _ = nI (if i = b_n b then v else b_v b i)
    by_cases e : i = b_n b
    · rw [if_pos e]; simp [w_lay, e]
    · rw [if_neg e]; simp [w_lay, e, MVv h.1 hi]
  · rw [eh _ _ (by decide)]
    have e0 : w_lay I (b_n b) (nI k) (nI v) 58 i = (if i = b_n b then 0 else I 58 i) &&& (nI (2 ^ b_n b) ^^^ -1) := by simp [w_lay, hi]
    rw [e0]
    by_cases e : i = b_n b
    · rw [if_pos e]
      show (nI 0 &&& _) = nI (if i = b_n b then 0 else _)
      rw [w_clr 0 (by decide) _ (by omega), if_pos e, Nat.zero_and]
    · rw [if_neg e, MVm h.1 hi, w_clr _ (Nat.lt_trans (hB.2.2.2.2.1 i) (by decide)) _ (by omega), b_jn_0 e]
      have := w_clr2 hB (k := k) (v := v) hn h2 i e
      rw [b_jn_0 e] at this
      rw [this]
  · rw [eh _ _ (by decide)]
    show _ = nI (b_r b j)
    by_cases e : 4 * b_n b ≤ j ∧ j < 4 * b_n b + 4
    · rw [hz.2.1 j e.1]
      simp [w_lay, e]; rfl
    · rw [← MVr h.1 hj]
      simp [w_lay, e]
  · refine h.2.elim (fun z => Or.inl ⟨z.1, (e55 _ (by decide)).trans z.2⟩) (fun ⟨f, z1, z2, z3, z4, z5⟩ => Or.inr ⟨f, (e55 _ (by decide)).trans z1, z2, z3, ?_, fun c q hq => ?_⟩)
    · rw [eh _ _ (by decide), w_lay_h (by decide)]; exact z4
    · obtain ⟨y1, y2, s, y3, y4, y5, y6⟩ := z5 c q hq
      refine ⟨?_, ?_, s, ?_, ?_, y5, fun j t ht => ?_⟩
      · rw [eh _ _ (by decide), w_lay_h (by decide)]; exact y1
      · rw [eh _ _ (by decide), w_lay_h (by decide)]; exact y2
      · rw [eh _ _ (by decide), w_lay_h (by decide)]; exact y3
      · rw [eh _ _ (by decide), w_lay_h (by decide)]; exact y4
      · rw [eh _ _ (by decide), w_lay_h (by decide)]; exact y6 j t ht
/-- scratch, and the marks of a base -/
def mQ (I I' : Nat → Nat → Int32) (b : BS) : Prop := (∀ x z, ¬ m_jk x z → x ≠ 58 → I' x z = I x z) ∧ (∀ i, i < 7 → I' 58 i = nI (b_m b i)) ∧ ∀ i, 7 ≤ i → I' 58 i = I 58 i
theorem mQ_J {I I' I'' : Nat → Nat → Int32} {b : BS} (h : mQ I I' b) (j : mJ I' I'') : mQ I I'' b := ⟨fun x z n1 n2 => (j x z n1).trans (h.1 x z n1 n2), fun i hi => (mJ_h j (by decide)).trans (h.2.1 i hi), fun i hi => (mJ_h j (by decide)).trans (h.2.2 i hi)⟩
theorem mQ_K {I I' I'' : Nat → Nat → Int32} {b b' : BS} (h : mQ I I' b) (j : mK I' I'' b') : mQ I I'' b' := ⟨fun x z n1 n2 => (j.1 x z n2).trans (h.1 x z n1 n2), j.2.1, fun i hi => (j.2.2 i hi).trans (h.2.2 i hi)⟩
theorem mQ_0 {I : Nat → Nat → Int32} {b : BS} (h : ∀ i, i < 7 → I 58 i = nI (b_m b i)) : mQ I I b := ⟨fun _ _ _ _ => rfl, h, fun _ _ => rfl⟩
theorem mK_eq {I I' : Nat → Nat → Int32} {b b' : BS} (h : mK I I' b) (e : ∀ i, b_m b i = b_m b' i) : mK I I' b' := ⟨h.1, fun i hi => by rw [← e i]; exact h.2.1 i hi, h.2.2⟩
theorem MW_Q {I I' : Nat → Nat → Int32} {b b' : BS} {g : Nat} {p : CLS} (h : MW I b g p) (m : mQ I I' b') (e : b_n b' = b_n b ∧ b_y b' = b_y b ∧ b_k b' = b_k b ∧ b_v b' = b_v b ∧ b_r b' = b_r b) (hv : VB b') : MW I' b' g p := by
  -- through the marks alone, then the scratch
  let I1 : Nat → Nat → Int32 := fun x z => if x = 58 then I' x z else I x z
  have k1 : mK I I1 b' := ⟨fun x z n => if_neg n, fun i hi => m.2.1 i hi, fun i hi => m.2.2 i hi⟩
  have j1 : mJ I1 I' := fun x z n => by
    show I' x z = if x = 58 then I' x z else I x z
    by_cases e : x = 58
    · rw [if_pos e]
    · rw [if_neg e]; exact m.1 x z n e
  exact MW_J (MW_K h k1 e hv) j1
theorem mQ_end {I I' : Nat → Nat → Int32} {b : BS} {p : CLS} {cm : Nat → Nat} {k v q : Nat} (h : MW I b 9 p) (hc : ∀ i, i < 7 → I 60 i = nI (cm i)) (hz : VZ b cm) (hn : b_n b < 6) (hk : k ≤ 6) (hv : v ≤ 9) (hq : q < 2 ^ b_n b) (m : mQ (v_u (w_lay I (b_n b) (nI k) (nI v)) 55 0 (nI (b_n b + 1))) I' (b_jn b k v q)) : mJ I (w_lay (v_u I' 55 0 (nI (b_n b))) (b_n b) (nI 0) (nI 0)) := by
  intro a z n
  have hB := h.1.2.1
  have hz0 := hz.1 (b_n b) (Nat.le_refl _)
  by_cases c1 : a = 56 ∧ z = b_n b
  · obtain ⟨rfl, rfl⟩ := c1
    rw [MVk h.1 (by omega), hz0.1]; simp [w_lay]
  by_cases c2 : a = 57 ∧ z = b_n b
  · obtain ⟨rfl, rfl⟩ := c2
    rw [MVv h.1 (by omega), hz0.2.1]; simp [w_lay]
  by_cases c3 : a = 60 ∧ z = b_n b
  · obtain ⟨rfl, rfl⟩ := c3
    rw [hc _ (by omega), hz0.2.2]; simp [w_lay]; rfl
  by_cases c4 : a = 58 ∧ z < 7
  · obtain ⟨rfl, h7⟩ := c4
    have e0 : w_lay (v_u I' 55 0 (nI (b_n b))) (b_n b) (nI 0) (nI 0) 58 z = (if z = b_n b then 0 else I' 58 z) &&& (nI (2 ^ b_n b) ^^^ -1) := by simp [w_lay, h7, v_u]
    rw [e0, MVm h.1 h7]
    by_cases e : z = b_n b
    · rw [if_pos e]
      show (nI 0 &&& _) = _
      rw [w_clr 0 (by decide) _ (by omega), Nat.zero_and, VB_mz hB (by omega)]
    · rw [if_neg e, m.2.1 z h7, w_clr _ (b_jn_lt hB hn hk hv hq z) _ (by omega), w_clr2 hB hn hq z e]
  by_cases c5 : a = 59 ∧ 4 * b_n b ≤ z ∧ z < 4 * b_n b + 4
  · obtain ⟨rfl, h8⟩ := c5
    rw [MVr h.1 (by omega), hz.2.1 z h8.1]; simp [w_lay, h8]; rfl
  have e0 : ∀ (A : Nat → Nat → Int32) (x y : Int32), w_lay A (b_n b) x y a z = A a z := fun A x y => by simp [w_lay, c1, c2, c3, c4, c5]
  rw [e0]
  by_cases c6 : a = 55 ∧ z = 0
  · obtain ⟨rfl, rfl⟩ := c6
    rw [v_u_same]; exact (MVn h.1).symm
  · have e1 : ∀ (A : Nat → Nat → Int32) (x : Int32), v_u A 55 0 x a z = A a z := fun A x => if_neg c6
    rw [e1]
    by_cases e : a = 58
    · rw [e] at c4 ⊢
      rw [m.2.2 z (by omega), v_u_h (by decide)]
      have := e0 I (nI k) (nI v)
      rw [e] at this
      exact this
    · rw [m.1 a z n e, e1]; exact e0 _ _ _
def w_bq (b : BS) (p : CLS) (k v q : Nat) : Nat := w_many (vw (b_jn b k v q) 9 p)
def s_befr (b : BS) (p : CLS) (kk vv ww : Int32) : Int32 := match x_nat kk 7, x_nat ww 2, x_nat vv 10 with
  | none, _, _ => -1
  | some _, none, _ => -1
  | some _, some _, none => -2
  | some k, some _, some v => if b_n b = 6 then -9 else s_best (w_fst (w_bq b p k v) (some 0, 99) (2 ^ b_n b)) ww
theorem w_meq {n q i : Nat} (hq : q < 2 ^ n) (hi : i < 2 ^ n) (h : ∀ j, j < n → q.testBit j = i.testBit j) : q = i := by
  apply Nat.eq_of_testBit_eq
  intro j
  by_cases hj : j < n
  · exact h j hj
  · have := Nat.pow_le_pow_right (show 0 < 2 by decide) (Nat.le_of_not_lt hj)
    rw [Nat.testBit_lt_two_pow (Nat.lt_of_lt_of_le hq this), Nat.testBit_lt_two_pow (Nat.lt_of_lt_of_le hi this)]
abbrev rm_X12_befriends : Room := { frames := 7, cells := 0, slots := 0, locals := 168 }
set_option maxRecDepth 20000 in
theorem c_X12_befriends (G : v_G) (l : Launch) {K : Nat × v_TY} {I : Nat → Nat → Int32} {J : Nat → Nat → Int64} {R : Nat → Nat → Option Nat} (hL : Lay K R) {kk vv ww : Int32} {b : BS} {p : List (Nat × Nat × List Nat)} (h : MW I b 9 p) {cm : Nat → Nat} (hc : ∀ i, i < 7 → I 60 i = nI (cm i)) (hz : VZ b cm) : v_M G l yX12_befriends cX12_befriends 9 (some .int) rm_X12_befriends [.ref 55, .int kk, .int vv, .int ww] (K, I, J, R) (v_Qi G (fun (x : Int32) (M' : v_MM) => x = s_befr b p kk vv ww ∧ ∃ I', M' = (K, I', J, R) ∧ mJ I I')) := by
  refine v_of [some (.ref 55), some (.int kk), some (.int vv), some (.int ww), none, none, none, none, none] (by decide) (Nat.le_of_ble_eq_true rfl) (Nat.le_of_ble_eq_true rfl) rfl ?_
  have hn := VBn h.1
  refine v_aload_n (pc := 0) dX12_befriends_0 rfl rfl ?_
  refine v_iload_n (pc := 1) dX12_befriends_1 rfl rfl ?_
  refine v_iconst (pc := 2) (v := nI 0) dX12_befriends_2 (by decide) ?_
  refine v_bipush (pc := 3) (v := nI 6) dX12_befriends_3 (by decide) ?_
  refine v_ci (pc := 5) (v_rV (c_X12_in G l hL) rfl kV_X12_197 (v_rcO (li_55 hL) rfl (by decide)) ⟨Nat.le_of_ble_eq_true rfl, Nat.le_of_ble_eq_true rfl⟩ ⟨Nat.le_of_ble_eq_true rfl, Nat.le_of_ble_eq_true rfl⟩ dX12_befriends_5 (Nat.le_of_ble_eq_true rfl)) (fun x5 M5 h5 => ?_)
  obtain ⟨rfl, rfl⟩ := h5
  refine v_if_eqP (pc := 8) (tgt := 21) dX12_befriends_8 (by decide) (fun c8 => ?_) (fun c8 => ?_)
  · have e1 : x_nat kk 7 = none := x_nat_n (fun z => c8 (v_in_iff (by decide) |>.mpr z))
    refine v_iconst (pc := 21) (v := -1) dX12_befriends_21 (by decide) ?_
    exact v_iret (pc := 22) dX12_befriends_22 rfl rfl (Nat.le_of_ble_eq_true rfl) (Nat.le_of_ble_eq_true rfl) ⟨by first | (simp only [s_befr, e1]; done) | (simp only [s_befr, e1, e2]; done) | (simp only [s_befr, e1, e2, e3]; done) | (simp only [s_befr, e1, e2, e3]; rw [if_pos c43]), I, rfl, mJ_rf⟩
  · obtain ⟨k, hk, rfl, e1⟩ := x_nat_i (v_in_iff (m := 6) (by decide) |>.mp c8) (by decide)
    refine v_aload_n (pc := 11) dX12_befriends_11 rfl rfl ?_
    refine v_iload_n (pc := 12) dX12_befriends_12 rfl rfl ?_
    refine v_iconst (pc := 13) (v := nI 0) dX12_befriends_13 (by decide) ?_
    refine v_iconst (pc := 14) (v := nI 1) dX12_befriends_14 (by decide) ?_
    refine v_ci (pc := 15) (v_rV (c_X12_in G l hL) rfl kV_X12_197 (v_rcO (li_55 hL) rfl (by decide)) ⟨Nat.le_of_ble_eq_true rfl, Nat.le_of_ble_eq_true rfl⟩ ⟨Nat.le_of_ble_eq_true rfl, Nat.le_of_ble_eq_true rfl⟩ dX12_befriends_15 (Nat.le_of_ble_eq_true rfl)) (fun x15 M15 h15 => ?_)
    obtain ⟨rfl, rfl⟩ := h15
    refine v_if_neP (pc := 18) (tgt := 23) dX12_befriends_18 (by decide) (fun c18 => ?_) (fun c18 => ?_)
    · have hw2 := x_two (v_in_iff (by decide) |>.mp c18)
      have e2 : ∃ w, x_nat ww 2 = some w := by rcases hw2 with rfl | rfl <;> exact ⟨_, rfl⟩
      obtain ⟨w2, e2⟩ := e2
      refine v_aload_n (pc := 23) dX12_befriends_23 rfl rfl ?_
      refine v_iload_n (pc := 24) dX12_befriends_24 rfl rfl ?_
      refine v_iconst (pc := 25) (v := nI 0) dX12_befriends_25 (by decide) ?_
      refine v_bipush (pc := 26) (v := nI 9) dX12_befriends_26 (by decide) ?_
      refine v_ci (pc := 28) (v_rV (c_X12_in G l hL) rfl kV_X12_197 (v_rcO (li_55 hL) rfl (by decide)) ⟨Nat.le_of_ble_eq_true rfl, Nat.le_of_ble_eq_true rfl⟩ ⟨Nat.le_of_ble_eq_true rfl, Nat.le_of_ble_eq_true rfl⟩ dX12_befriends_28 (Nat.le_of_ble_eq_true rfl)) (fun x28 M28 h28 => ?_)
      obtain ⟨rfl, rfl⟩ := h28
      refine v_if_neP (pc := 31) (tgt := 37) dX12_befriends_31 (by decide) (fun c31 => ?_) (fun c31 => ?_)
      · obtain ⟨v, hv, rfl, e3⟩ := x_nat_i (v_in_iff (m := 9) (by decide) |>.mp c31) (by decide)
        refine v_aload_n (pc := 37) dX12_befriends_37 rfl rfl ?_
        refine v_getV (pc := 38) fg_X12_7_12 dX12_befriends_38 (li_55 hL) (MVn h.1) ?_
        refine v_bipush (pc := 41) (v := nI 6) dX12_befriends_41 (by decide) ?_
        refine v_icmp_neN (pc := 43) (tgt := 49) ⟨by omega, by omega⟩ dX12_befriends_43 (by decide) (fun c43 => ?_) (fun c43 => ?_)
        · refine v_aload_n (pc := 49) dX12_befriends_49 rfl rfl ?_
          refine v_getV (pc := 50) fg_X12_7_12 dX12_befriends_50 (li_55 hL) (MVn h.1) ?_
          refine v_istore (pc := 53) dX12_befriends_53 (by decide) rfl ?_
          refine v_aload_n (pc := 55) dX12_befriends_55 rfl rfl ?_
          refine v_iload (pc := 56) dX12_befriends_56 rfl ?_
          refine v_iload_n (pc := 58) dX12_befriends_58 rfl rfl ?_
          refine v_iload_n (pc := 59) dX12_befriends_59 rfl rfl ?_
          refine v_cv (pc := 60) (v_rV (c_X12_lay G l hL (by omega)) rfl kV_X12_209 (v_rcO (li_55 hL) rfl (by decide)) ⟨Nat.le_of_ble_eq_true rfl, Nat.le_of_ble_eq_true rfl⟩ ⟨Nat.le_of_ble_eq_true rfl, Nat.le_of_ble_eq_true rfl⟩ dX12_befriends_60 (Nat.le_of_ble_eq_true rfl)) (fun M60 h60 => ?_)
          subst h60
          refine v_aload_n (pc := 63) dX12_befriends_63 rfl rfl ?_
          refine v_dup (pc := 64) dX12_befriends_64 rfl ?_
          refine v_getV (pc := 65) fg_X12_7_12 dX12_befriends_65 (li_55 hL) ((w_lay_h (by decide)).trans (MVn h.1)) ?_
          refine v_iconst (pc := 68) (v := nI 1) dX12_befriends_68 (by decide) ?_
          refine v_iaddN (pc := 69) dX12_befriends_69 ?_
          refine v_putI (pc := 70) pg_X12_7_12 (fun h => by cases h) dX12_befriends_70 (li_55 hL) rfl rfl ?_
          refine v_iconst (pc := 73) (v := nI 0) dX12_befriends_73 (by decide) ?_
          refine v_istore (pc := 74) dX12_befriends_74 (by decide) rfl ?_
          refine v_bipush (pc := 76) (v := nI 99) dX12_befriends_76 (by decide) ?_
          refine v_istore (pc := 78) dX12_befriends_78 (by decide) rfl ?_
          refine v_iconst (pc := 80) (v := nI 0) dX12_befriends_80 (by decide) ?_
          refine v_istore (pc := 81) dX12_befriends_81 (by decide) rfl ?_
          have hw1 := MW_lay (k := k) (v := v) h hz (by omega) (by omega) (by omega)
          have h32 : 2 ^ b_n b ≤ 32 := Nat.le_trans (Nat.pow_le_pow_right (by decide) (show b_n b ≤ 5 by omega)) (by decide)
          have hp0 : 0 < 2 ^ b_n b := Nat.two_pow_pos _
          have key : ∀ i, i ≤ 2 ^ b_n b → ∀ (Ii : Nat → Nat → Int32) (z8 : Option Value) (q : Nat), q < 2 ^ b_n b → mQ (v_u (w_lay I (b_n b) (nI k) (nI v)) 55 0 (nI (b_n b + 1))) Ii (b_jn b k v q) → v_V G l yX12_befriends cX12_befriends 9 (some .int) rm_X12_befriends (v_Qi G (fun (x : Int32) (M' : v_MM) => x = s_befr b p (nI k) (nI v) ww ∧ ∃ I', M' = (K, I', J, R) ∧ mJ I I')) 0 0 83 [some (.ref 55), some (.int (nI k)), some (.int (nI v)), some (.int ww), some (.int (nI (b_n b))), some (.int (nI ((w_fst (w_bq b p k v) (some 0, 99) i).1.getD 0))), some (.int (nI (w_fst (w_bq b p k v) (some 0, 99) i).2)), some (.int (nI i)), z8] [] (K, Ii, J, R) := by
            refine v_down (2 ^ b_n b) (fun i hi ih => ?_)
            intro Ii z8 q hq hI
            have hw := MW_Q hw1 hI ⟨rfl, rfl, rfl, rfl, rfl⟩ (VB_jn h.1.2.1 (by omega) (by omega) (by omega) hq)
            refine v_iload (pc := 83) dX12_befriends_83 rfl ?_
            refine v_iconst (pc := 85) (v := nI 1) dX12_befriends_85 (by decide) ?_
            refine v_iload (pc := 86) dX12_befriends_86 rfl ?_
            refine v_ishl (pc := 88) dX12_befriends_88 ?_
            refine v_top (v_shl1 _ (by omega)) ?_
            refine v_icmp_geN (pc := 89) (tgt := 170) ⟨by omega, by omega⟩ dX12_befriends_89 (by decide) (fun c89 => ?_) (fun c89 => ?_)
            · refine v_aload_n (pc := 170) dX12_befriends_170 rfl rfl ?_
              refine v_dup (pc := 171) dX12_befriends_171 rfl ?_
              refine v_getV (pc := 172) fg_X12_7_12 dX12_befriends_172 (li_55 hL) (show Ii 55 0 = nI (b_n b + 1) from MVn hw.1) ?_
              refine v_iconst (pc := 175) (v := nI 1) dX12_befriends_175 (by decide) ?_
              refine v_isubN (pc := 176) (by omega) dX12_befriends_176 ?_
              refine v_top (show nI (b_n b + 1 - 1) = nI (b_n b) by rw [Nat.add_sub_cancel]) ?_
              refine v_putI (pc := 177) pg_X12_7_12 (fun h => by cases h) dX12_befriends_177 (li_55 hL) rfl rfl ?_
              refine v_aload_n (pc := 180) dX12_befriends_180 rfl rfl ?_
              refine v_iload (pc := 181) dX12_befriends_181 rfl ?_
              refine v_iconst (pc := 183) (v := nI 0) dX12_befriends_183 (by decide) ?_
              refine v_iconst (pc := 184) (v := nI 0) dX12_befriends_184 (by decide) ?_
              refine v_cv (pc := 185) (v_rV (c_X12_lay G l hL (by omega)) rfl kV_X12_209 (v_rcO (li_55 hL) rfl (by decide)) ⟨Nat.le_of_ble_eq_true rfl, Nat.le_of_ble_eq_true rfl⟩ ⟨Nat.le_of_ble_eq_true rfl, Nat.le_of_ble_eq_true rfl⟩ dX12_befriends_185 (Nat.le_of_ble_eq_true rfl)) (fun M185 h185 => ?_)
              subst h185
              have e : i = 2 ^ b_n b := by omega
              subst e
              have hs := w_fst_s (w_bq b p k v) (some 0, 99) rfl (2 ^ b_n b)
              have e5 : s_befr b p (nI k) (nI v) ww = s_best (w_fst (w_bq b p k v) (some 0, 99) (2 ^ b_n b)) ww := by simp only [s_befr, e1, e2, e3]; exact if_neg c43
              rw [e5]
              generalize w_fst (w_bq b p k v) (some 0, 99) (2 ^ b_n b) = z at hs ⊢
              obtain ⟨o, z⟩ := z
              obtain ⟨k2, rfl⟩ := Option.isSome_iff_exists.mp hs
              rcases hw2 with rfl | rfl
              · refine v_iload_n (pc := 188) dX12_befriends_188 rfl rfl ?_
                refine v_if_neN (pc := 189) (tgt := 197) (by omega) dX12_befriends_189 (by decide) (fun c189 => ?_) (fun c189 => ?_)
                · refine v_iload (pc := 197) dX12_befriends_197 rfl ?_
                  exact v_iret (pc := 199) dX12_befriends_199 rfl rfl (Nat.le_of_ble_eq_true rfl) (Nat.le_of_ble_eq_true rfl) ⟨by first | omega | rfl, _, rfl, mQ_end h hc hz (by omega) (by omega) (by omega) hq hI⟩
                · refine v_iload (pc := 192) dX12_befriends_192 rfl ?_
                  refine v_goto (pc := 194) (tgt := 199) dX12_befriends_194 (by decide) ?_
                  exact v_iret (pc := 199) dX12_befriends_199 rfl rfl (Nat.le_of_ble_eq_true rfl) (Nat.le_of_ble_eq_true rfl) ⟨by first | omega | rfl, _, rfl, mQ_end h hc hz (by omega) (by omega) (by omega) hq hI⟩
              · refine v_iload_n (pc := 188) dX12_befriends_188 rfl rfl ?_
                refine v_if_neN (pc := 189) (tgt := 197) (by omega) dX12_befriends_189 (by decide) (fun c189 => ?_) (fun c189 => ?_)
                · refine v_iload (pc := 197) dX12_befriends_197 rfl ?_
                  exact v_iret (pc := 199) dX12_befriends_199 rfl rfl (Nat.le_of_ble_eq_true rfl) (Nat.le_of_ble_eq_true rfl) ⟨by first | omega | rfl, _, rfl, mQ_end h hc hz (by omega) (by omega) (by omega) hq hI⟩
                · refine v_iload (pc := 192) dX12_befriends_192 rfl ?_
                  refine v_goto (pc := 194) (tgt := 199) dX12_befriends_194 (by decide) ?_
                  exact v_iret (pc := 199) dX12_befriends_199 rfl rfl (Nat.le_of_ble_eq_true rfl) (Nat.le_of_ble_eq_true rfl) ⟨by first | omega | rfl, _, rfl, mQ_end h hc hz (by omega) (by omega) (by omega) hq hI⟩
            · refine v_iconst (pc := 92) (v := nI 0) dX12_befriends_92 (by decide) ?_
              refine v_istore (pc := 93) dX12_befriends_93 (by decide) rfl ?_
              have inr : ∀ o, o ≤ b_n b → ∀ (Ij : Nat → Nat → Int32) (q : Nat), q < 2 ^ b_n b → (∀ j, j < o → q.testBit j = i.testBit j) → mQ (v_u (w_lay I (b_n b) (nI k) (nI v)) 55 0 (nI (b_n b + 1))) Ij (b_jn b k v q) → v_V G l yX12_befriends cX12_befriends 9 (some .int) rm_X12_befriends (v_Qi G (fun (x : Int32) (M' : v_MM) => x = s_befr b p (nI k) (nI v) ww ∧ ∃ I', M' = (K, I', J, R) ∧ mJ I I')) 0 0 95 [some (.ref 55), some (.int (nI k)), some (.int (nI v)), some (.int ww), some (.int (nI (b_n b))), some (.int (nI ((w_fst (w_bq b p k v) (some 0, 99) i).1.getD 0))), some (.int (nI (w_fst (w_bq b p k v) (some 0, 99) i).2)), some (.int (nI i)), some (.int (nI o))] [] (K, Ij, J, R) := by
                refine v_down (b_n b) (fun o ho ih2 => ?_)
                intro Ij q hq hqi hJ
                have hwj := MW_Q hw1 hJ ⟨rfl, rfl, rfl, rfl, rfl⟩ (VB_jn h.1.2.1 (by omega) (by omega) (by omega) hq)
                refine v_iload (pc := 95) dX12_befriends_95 rfl ?_
                refine v_iload (pc := 97) dX12_befriends_97 rfl ?_
                refine v_icmp_geN (pc := 99) (tgt := 140) ⟨by omega, by omega⟩ dX12_befriends_99 (by decide) (fun c99 => ?_) (fun c99 => ?_)
                · have eo : o = b_n b := by omega
                  subst eo
                  have eq := w_meq hq (show i < 2 ^ b_n b by omega) hqi
                  subst eq
                  refine v_aload_n (pc := 140) dX12_befriends_140 rfl rfl ?_
                  refine v_ci (pc := 141) (v_rV (c_X12_layAmiss G l hL hwj) rfl kV_X12_307 (v_rcO (li_55 hL) rfl (by decide)) ⟨Nat.le_of_ble_eq_true rfl, Nat.le_of_ble_eq_true rfl⟩ ⟨Nat.le_of_ble_eq_true rfl, Nat.le_of_ble_eq_true rfl⟩ dX12_befriends_141 (Nat.le_of_ble_eq_true rfl)) (fun x141 M141 h141 => ?_)
                  obtain ⟨rfl, I3, rfl, m3⟩ := h141
                  have hmt := w_many_lt hwj.1.2.1 9 p
                  have hlt := w_fst_lt (w_bq b p k v) (some 0, 99) 100 (by decide) q (fun j hj => by have := w_many_lt (VB_jn h.1.2.1 (k := k) (v := v) (by omega) (by omega) (by omega) (show j < 2 ^ b_n b by omega)) 9 p; show w_many _ < 100; omega)
                  have ee : w_fst (w_bq b p k v) (some 0, 99) (q + 1) = if w_many (vw (b_jn b k v q) 9 p) < (w_fst (w_bq b p k v) (some 0, 99) q).2 then (some q, w_many (vw (b_jn b k v q) 9 p)) else (w_fst (w_bq b p k v) (some 0, 99) q) := rfl
                  have goon := fun z => ih (q + 1) (by omega) (by omega) I3 z q hq (mQ_J hJ m3.1)
                  rw [ee] at goon
                  refine v_istore (pc := 144) dX12_befriends_144 (by decide) rfl ?_
                  refine v_iload (pc := 146) dX12_befriends_146 rfl ?_
                  refine v_iload (pc := 148) dX12_befriends_148 rfl ?_
                  refine v_icmp_ltN (pc := 150) (tgt := 156) ⟨by omega, by omega⟩ dX12_befriends_150 (by decide) (fun c150 => ?_) (fun c150 => ?_)
                  · refine v_iload (pc := 156) dX12_befriends_156 rfl ?_
                    refine v_istore (pc := 158) dX12_befriends_158 (by decide) rfl ?_
                    refine v_iload (pc := 160) dX12_befriends_160 rfl ?_
                    refine v_istore (pc := 162) dX12_befriends_162 (by decide) rfl ?_
                    refine v_iincN (pc := 164) (b := 1) dX12_befriends_164 rfl (by decide) (by decide) rfl ?_
                    refine v_goto (pc := 167) (tgt := 83) dX12_befriends_167 (by decide) ?_
                    first
                      | (rw [if_pos c150] at goon; exact goon _)
                      | (rw [if_neg (by omega)] at goon; exact goon _)
                  · refine v_goto (pc := 153) (tgt := 164) dX12_befriends_153 (by decide) ?_
                    refine v_iincN (pc := 164) (b := 1) dX12_befriends_164 rfl (by decide) (by decide) rfl ?_
                    refine v_goto (pc := 167) (tgt := 83) dX12_befriends_167 (by decide) ?_
                    first
                      | (rw [if_pos c150] at goon; exact goon _)
                      | (rw [if_neg (by omega)] at goon; exact goon _)
                · refine v_aload_n (pc := 102) dX12_befriends_102 rfl rfl ?_
                  refine v_iload (pc := 103) dX12_befriends_103 rfl ?_
                  refine v_iload (pc := 105) dX12_befriends_105 rfl ?_
                  refine v_ci (pc := 107) (v_rV (c_X12_has G l hL (by omega)) rfl kV_X12_217 (v_rcO (li_55 hL) rfl (by decide)) ⟨Nat.le_of_ble_eq_true rfl, Nat.le_of_ble_eq_true rfl⟩ ⟨Nat.le_of_ble_eq_true rfl, Nat.le_of_ble_eq_true rfl⟩ dX12_befriends_107 (Nat.le_of_ble_eq_true rfl)) (fun x107 M107 h107 => ?_)
                  obtain ⟨rfl, rfl⟩ := h107
                  refine v_aload_n (pc := 110) dX12_befriends_110 rfl rfl ?_
                  refine v_aload_n (pc := 111) dX12_befriends_111 rfl rfl ?_
                  refine v_getH (pc := 112) fg_X12_26_12 dX12_befriends_112 (li_55 hL) (lr_55_5 hL) ?_
                  refine v_iload (pc := 115) dX12_befriends_115 rfl ?_
                  refine v_ialoadN (pc := 117) dX12_befriends_117 (li_58 hL) ⟨by omega, by omega⟩ (show Ij 58 (b_n b) = nI q by rw [MVm hwj.1 (by omega)]; exact congrArg nI (if_pos rfl)) ?_
                  refine v_iload (pc := 118) dX12_befriends_118 rfl ?_
                  refine v_ci (pc := 120) (v_rV (c_X12_has G l hL (by omega)) rfl kV_X12_217 (v_rcO (li_55 hL) rfl (by decide)) ⟨Nat.le_of_ble_eq_true rfl, Nat.le_of_ble_eq_true rfl⟩ ⟨Nat.le_of_ble_eq_true rfl, Nat.le_of_ble_eq_true rfl⟩ dX12_befriends_120 (Nat.le_of_ble_eq_true rfl)) (fun x120 M120 h120 => ?_)
                  obtain ⟨rfl, rfl⟩ := h120
                  refine v_icmp_eq (pc := 123) (tgt := 134) dX12_befriends_123 (by decide) (fun c123 => ?_) (fun c123 => ?_)
                  · rw [w_bt (by omega), w_bt (by omega), v_pb] at c123
                    refine v_iincN (pc := 134) (b := 1) dX12_befriends_134 rfl (by decide) (by decide) rfl ?_
                    refine v_goto (pc := 137) (tgt := 95) dX12_befriends_137 (by decide) ?_
                    first
                      | exact ih2 (o + 1) (by omega) (by omega) Ij q hq (fun j hj => by rcases Nat.lt_succ_iff_lt_or_eq.mp hj with z | z; exact hqi j z; subst z; exact c123.symm) hJ
                      | exact ih2 (o + 1) (by omega) (by omega) _ _ hx2 (fun j hj => by rw [Nat.testBit_xor, Nat.testBit_two_pow]; rcases Nat.lt_succ_iff_lt_or_eq.mp hj with z | z; rw [decide_eq_false (show ¬ o = j by omega), Bool.xor_false]; exact hqi j z; subst z; rw [decide_eq_true rfl]; revert c123; cases q.testBit j <;> cases i.testBit j <;> simp) (mQ_K hJ (mK_eq (mK_turns (b := b_jn b k v q) (fun i hi => MVm hwj.1 hi) (by omega) (by omega) (by omega)) (fun i => b_jn_fl h.1.2.1 hq (by omega) i)))
                  · rw [w_bt (by omega), w_bt (by omega), v_pb] at c123
                    have hx2 : q ^^^ 2 ^ o < 2 ^ b_n b := Nat.xor_lt_two_pow hq (Nat.pow_lt_pow_right (by decide) (by omega))
                    refine v_aload_n (pc := 126) dX12_befriends_126 rfl rfl ?_
                    refine v_iload (pc := 127) dX12_befriends_127 rfl ?_
                    refine v_iload (pc := 129) dX12_befriends_129 rfl ?_
                    refine v_cv (pc := 131) (v_rV (c_X12_turns G l hL (km := b_m (b_jn b k v q)) (fun i hi => MVm hwj.1 hi) ⟨by omega, by omega, by omega⟩) rfl kV_X12_221 (v_rcO (li_55 hL) rfl (by decide)) ⟨Nat.le_of_ble_eq_true rfl, Nat.le_of_ble_eq_true rfl⟩ ⟨Nat.le_of_ble_eq_true rfl, Nat.le_of_ble_eq_true rfl⟩ dX12_befriends_131 (Nat.le_of_ble_eq_true rfl)) (fun M131 h131 => ?_)
                    subst h131
                    refine v_iincN (pc := 134) (b := 1) dX12_befriends_134 rfl (by decide) (by decide) rfl ?_
                    refine v_goto (pc := 137) (tgt := 95) dX12_befriends_137 (by decide) ?_
                    first
                      | exact ih2 (o + 1) (by omega) (by omega) Ij q hq (fun j hj => by rcases Nat.lt_succ_iff_lt_or_eq.mp hj with z | z; exact hqi j z; subst z; exact c123.symm) hJ
                      | exact ih2 (o + 1) (by omega) (by omega) _ _ hx2 (fun j hj => by rw [Nat.testBit_xor, Nat.testBit_two_pow]; rcases Nat.lt_succ_iff_lt_or_eq.mp hj with z | z; rw [decide_eq_false (show ¬ o = j by omega), Bool.xor_false]; exact hqi j z; subst z; rw [decide_eq_true rfl]; revert c123; cases q.testBit j <;> cases i.testBit j <;> simp) (mQ_K hJ (mK_eq (mK_turns (b := b_jn b k v q) (fun i hi => MVm hwj.1 hi) (by omega) (by omega) (by omega)) (fun i => b_jn_fl h.1.2.1 hq (by omega) i)))
              exact inr 0 (by omega) Ii q hq (fun j hj => absurd hj (by omega)) hI
          exact key 0 (by omega) _ none 0 hp0 (mQ_0 (fun i hi => MVm hw1.1 hi))
        · refine v_bipush (pc := 46) (v := -9) dX12_befriends_46 (by decide) ?_
          exact v_iret (pc := 48) dX12_befriends_48 rfl rfl (Nat.le_of_ble_eq_true rfl) (Nat.le_of_ble_eq_true rfl) ⟨by first | (simp only [s_befr, e1]; done) | (simp only [s_befr, e1, e2]; done) | (simp only [s_befr, e1, e2, e3]; done) | (simp only [s_befr, e1, e2, e3]; rw [if_pos c43]), I, rfl, mJ_rf⟩
      · have e3 : x_nat vv 10 = none := x_nat_n (fun z => c31 (v_in_iff (m := 9) (by decide) |>.mpr z))
        refine v_bipush (pc := 34) (v := -2) dX12_befriends_34 (by decide) ?_
        exact v_iret (pc := 36) dX12_befriends_36 rfl rfl (Nat.le_of_ble_eq_true rfl) (Nat.le_of_ble_eq_true rfl) ⟨by first | (simp only [s_befr, e1]; done) | (simp only [s_befr, e1, e2]; done) | (simp only [s_befr, e1, e2, e3]; done) | (simp only [s_befr, e1, e2, e3]; rw [if_pos c43]), I, rfl, mJ_rf⟩
    · have e2 : x_nat ww 2 = none := x_nat_n (fun z => c18 (v_in_iff (by decide) |>.mpr z))
      refine v_iconst (pc := 21) (v := -1) dX12_befriends_21 (by decide) ?_
      exact v_iret (pc := 22) dX12_befriends_22 rfl rfl (Nat.le_of_ble_eq_true rfl) (Nat.le_of_ble_eq_true rfl) ⟨by first | (simp only [s_befr, e1]; done) | (simp only [s_befr, e1, e2]; done) | (simp only [s_befr, e1, e2, e3]; done) | (simp only [s_befr, e1, e2, e3]; rw [if_pos c43]), I, rfl, mJ_rf⟩
