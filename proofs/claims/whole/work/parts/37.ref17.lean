/-! THE REFERENCE: the cheapest set -/
abbrev CH : Type := Option (Nat × Nat × Int32 × Int32)
def w_tk (ok : Bool) (c : Nat × Nat × Int32 × Int32) (z : CH) : CH := if ok = true then (match z with
  | none => some c
  | some d => if c.1 < d.1 then some c else some d) else z
def w_prc (b : BS) (p : CLS) (k : Nat) : Nat := w_price (vw b 9 p) (w_l k) (w_g k)
def w_c1 (b : BS) (p : CLS) : Nat → CH
  | 0 => w_tk (decide (w_many (vw b 9 p) = 0)) (0, 0, -5, -5) none
  | k + 1 => w_tk (decide (w_tr b p k = 0)) (w_prc b p k, 1, nI k, -5) (w_c1 b p k)
def w_c2 (b : BS) (p : CLS) (k : Nat) (z : CH) : Nat → CH
  | 0 => z
  | j + 1 => if k < j then w_tk (decide (w_tr (b_fp b k) p j = 0)) (w_prc b p k + w_prc b p j, 2, nI k, nI j) (w_c2 b p k z j) else w_c2 b p k z j
def w_c3 (b : BS) (p : CLS) (n : Nat) : Nat → CH
  | 0 => w_c1 b p n
  | k + 1 => w_c2 b p k (w_c3 b p n k) n
def s_cheap (b : BS) (p : CLS) (w : Int32) : Int32 := match x_nat w 4, w_c3 b p (w_pr (b_n b)) (w_pr (b_n b)) with
  | none, _ => -1
  | some _, none => -5
  | some 0, some d => nI d.1
  | some 1, some d => nI d.2.1
  | some 2, some d => d.2.2.1
  | some _, some d => d.2.2.2
theorem w_c2_0 {b : BS} {p : CLS} {k : Nat} {z : CH} : ∀ j, j ≤ k + 1 → w_c2 b p k z j = z
  | 0, _ => rfl
  | j + 1, h => by
    show (if k < j then _ else w_c2 b p k z j) = z
    rw [if_neg (by omega)]
    exact w_c2_0 j (by omega)
def CB (m : Nat) (z : CH) : Prop := ∀ d, z = some d → d.1 < 4000 ∧ d.2.1 ≤ m
theorem CB_tk {m : Nat} {z : CH} (h : CB m z) {ok : Bool} {c : Nat × Nat × Int32 × Int32} (hc : c.1 < 4000 ∧ c.2.1 ≤ m) : CB m (w_tk ok c z) := by
  intro d hd
  unfold w_tk at hd
  split at hd
  · split at hd
    · cases hd; exact hc
    · split at hd
      · cases hd; exact hc
      · cases hd; exact h _ rfl
  · exact h d hd
theorem CB_up {m k : Nat} {z : CH} (h : CB m z) (hk : m ≤ k) : CB k z := fun d hd => ⟨(h d hd).1, Nat.le_trans (h d hd).2 hk⟩
theorem w_prc_lt {b : BS} {p : CLS} (hp : w_okp p) (k : Nat) : w_prc b p k ≤ 990 := w_sum_lt (v := vw b 9 p) hp _ _ _
theorem CB_1 {b : BS} {p : CLS} (hp : w_okp p) : ∀ k, CB 1 (w_c1 b p k)
  | 0 => CB_tk (fun d hd => by cases hd) ⟨by decide, by decide⟩
  | k + 1 => CB_tk (CB_1 hp k) ⟨by have := w_prc_lt (b := b) hp k; show w_prc b p k < 4000; omega, Nat.le_refl 1⟩
theorem CB_2 {b : BS} {p : CLS} (hp : w_okp p) {k : Nat} {z : CH} (hz : CB 2 z) : ∀ j, CB 2 (w_c2 b p k z j)
  | 0 => hz
  | j + 1 => by
    show CB 2 (if k < j then _ else w_c2 b p k z j)
    split
    · exact CB_tk (CB_2 hp hz j) ⟨by have := w_prc_lt (b := b) hp k; have := w_prc_lt (b := b) hp j; show w_prc b p k + w_prc b p j < 4000; omega, Nat.le_refl 2⟩
    · exact CB_2 hp hz j
theorem CB_3 {b : BS} {p : CLS} (hp : w_okp p) (n : Nat) : ∀ k, CB 2 (w_c3 b p n k)
  | 0 => CB_up (CB_1 hp n) (by decide)
  | k + 1 => CB_2 hp (CB_3 hp n k) n
def MCh (I : Nat → Nat → Int32) (z : CH) : Prop := match z with
  | none => I 55 30 = -1
  | some d => I 55 29 = nI d.1 ∧ I 55 30 = nI d.2.1 ∧ I 55 31 = d.2.2.1 ∧ I 55 32 = d.2.2.2
def m_be (b : Nat) : Prop := b = 29 ∨ b = 30 ∨ b = 31 ∨ b = 32
def mB (I I' : Nat → Nat → Int32) : Prop := ∀ a b, ¬ (a = 55 ∧ m_be b) → I' a b = I a b
theorem mB_rf {I : Nat → Nat → Int32} : mB I I := fun _ _ _ => rfl
theorem mB_h {I I' : Nat → Nat → Int32} (h : mB I I') {a b : Nat} (n : a ≠ 55) : I' a b = I a b := h a b (fun z => n z.1)
theorem mB_f {I I' : Nat → Nat → Int32} (h : mB I I') {b : Nat} (n : b ≠ 29 ∧ b ≠ 30 ∧ b ≠ 31 ∧ b ≠ 32) : I' 55 b = I 55 b := h 55 b (fun z => by
  rcases z.2 with e | e | e | e
  · exact n.1 e
  · exact n.2.1 e
  · exact n.2.2.1 e
  · exact n.2.2.2 e)
theorem MB_B {I I' : Nat → Nat → Int32} {b : BS} (h : MB I b) (j : mB I I') : MB I' b :=
  ⟨(mB_f j (by decide)).trans h.1, (mB_f j (by decide)).trans h.2.1, fun i hi => (mB_h j (by decide)).trans (h.2.2.1 i hi), fun i hi => (mB_h j (by decide)).trans (h.2.2.2.1 i hi), fun i hi => (mB_h j (by decide)).trans (h.2.2.2.2.1 i hi), fun i hi => (mB_h j (by decide)).trans (h.2.2.2.2.2 i hi)⟩
theorem MG_B {I I' : Nat → Nat → Int32} {g : Nat} (h : MG I g) (j : mB I I') : MG I' g := h.elim (fun z => Or.inl ⟨z.1, (mB_f j (by decide)).trans z.2⟩) (fun z => Or.inr ⟨z.1, (mB_f j (by decide)).trans z.2⟩)
theorem MPt_B {I I' : Nat → Nat → Int32} {f : Nat} {p : List (Nat × Nat × List Nat)} (h : MPt I f p) (j : mB I I') : MPt I' f p := by
  refine ⟨h.1, h.2.1, (mB_h j (by decide)).trans h.2.2.1, fun c q hq => ?_⟩
  obtain ⟨h1, h2, s, h3, h4, h5, h6⟩ := h.2.2.2 c q hq
  exact ⟨(mB_h j (by decide)).trans h1, (mB_h j (by decide)).trans h2, s, (mB_h j (by decide)).trans h3, (mB_h j (by decide)).trans h4, h5, fun i k hk => (mB_h j (by decide)).trans (h6 i k hk)⟩
theorem MP_B {I I' : Nat → Nat → Int32} {p : List (Nat × Nat × List Nat)} (h : MP I p) (j : mB I I') : MP I' p := h.elim (fun z => Or.inl ⟨z.1, (mB_f j (by decide)).trans z.2⟩) (fun ⟨f, z1, z2⟩ => Or.inr ⟨f, (mB_f j (by decide)).trans z1, MPt_B z2 j⟩)
theorem MV_B {I I' : Nat → Nat → Int32} {b : BS} {g : Nat} (h : MV I b g) (j : mB I I') : MV I' b g := ⟨MB_B h.1 j, h.2.1, MG_B h.2.2 j⟩
theorem MW_B {I I' : Nat → Nat → Int32} {b : BS} {g : Nat} {p : List (Nat × Nat × List Nat)} (h : MW I b g p) (j : mB I I') : MW I' b g p := ⟨MV_B h.1 j, MP_B h.2 j⟩

/-- scratch, the best set and the masks aside, all is as it was -/
def mS (I I' : Nat → Nat → Int32) : Prop := ∀ a z, ¬ m_jk a z → ¬ (a = 55 ∧ m_be z) → a ≠ 58 → I' a z = I a z
theorem mS_J {I I' I'' : Nat → Nat → Int32} (h : mS I I') (j : mJ I' I'') : mS I I'' := fun a z n1 n2 n3 => (j a z n1).trans (h a z n1 n2 n3)
theorem mS_B {I I' I'' : Nat → Nat → Int32} (h : mS I I') (j : mB I' I'') : mS I I'' := fun a z n1 n2 n3 => (j a z n2).trans (h a z n1 n2 n3)
theorem mS_K {I I' I'' : Nat → Nat → Int32} {b : BS} (h : mS I I') (j : mK I' I'' b) : mS I I'' := fun a z n1 n2 n3 => (j.1 a z n3).trans (h a z n1 n2 n3)
theorem mS_rf {I : Nat → Nat → Int32} : mS I I := fun _ _ _ _ _ => rfl
theorem MCh_of {I I' : Nat → Nat → Int32} {z : CH} (h : MCh I z) (j : ∀ b, m_be b → I' 55 b = I 55 b) : MCh I' z := by
  match z, h with
  | none, h => exact (j _ (Or.inr (Or.inl rfl))).trans h
  | some d, h => exact ⟨(j _ (Or.inl rfl)).trans h.1, (j _ (Or.inr (Or.inl rfl))).trans h.2.1, (j _ (Or.inr (Or.inr (Or.inl rfl)))).trans h.2.2.1, (j _ (Or.inr (Or.inr (Or.inr rfl)))).trans h.2.2.2⟩
theorem MCh_J {I I' : Nat → Nat → Int32} {z : CH} (h : MCh I z) (j : mJ I I') : MCh I' z := MCh_of h (fun b hb => mJ_f j (by rcases hb with rfl | rfl | rfl | rfl <;> decide))
theorem MCh_K {I I' : Nat → Nat → Int32} {z : CH} {b : BS} (h : MCh I z) (j : mK I I' b) : MCh I' z := MCh_of h (fun b _ => j.1 _ _ (by decide))
theorem mB_u {I I' : Nat → Nat → Int32} {k : Nat} {x : Int32} (h : mB I I') (hk : m_be k) : mB I (v_u I' 55 k x) := fun a z n => (if_neg (fun e => n ⟨e.1, by rw [e.2]; exact hk⟩)).trans (h a z n)
theorem mB_4 {I : Nat → Nat → Int32} {x1 x2 x3 x4 : Int32} : mB I (v_u (v_u (v_u (v_u I 55 29 x1) 55 30 x2) 55 31 x3) 55 32 x4) := mB_u (mB_u (mB_u (mB_u mB_rf (Or.inl rfl)) (Or.inr (Or.inl rfl))) (Or.inr (Or.inr (Or.inl rfl)))) (Or.inr (Or.inr (Or.inr rfl)))
theorem MCh_4 {I : Nat → Nat → Int32} {c mm : Nat} {x3 x4 : Int32} : MCh (v_u (v_u (v_u (v_u I 55 29 (nI c)) 55 30 (nI mm)) 55 31 x3) 55 32 x4) (some (c, mm, x3, x4)) := ⟨by simp [v_u], by simp [v_u], by simp [v_u], by simp [v_u]⟩
theorem tk_lt {c d : Nat × Nat × Int32 × Int32} (h : c.1 < d.1) : w_tk true c (some d) = some c := (if_pos rfl).trans (if_pos h)
theorem tk_ge {c d : Nat × Nat × Int32 × Int32} (h : ¬ c.1 < d.1) : w_tk true c (some d) = some d := (if_pos rfl).trans (if_neg h)
theorem tk_f {c : Nat × Nat × Int32 × Int32} {z : CH} : w_tk false c z = z := if_neg (by decide)
abbrev rm_X12_take : Room := { frames := 0, cells := 0, slots := 0, locals := 0 }
set_option maxRecDepth 20000 in
theorem c_X12_take (G : v_G) (l : Launch) {K : Nat × v_TY} {I : Nat → Nat → Int32} {J : Nat → Nat → Int64} {R : Nat → Nat → Option Nat} (hL : Lay K R) {c mm : Nat} {one oth : Int32} {z : CH} (h : MCh I z) (hz : CB mm z) (hc : c < 4000 ∧ mm ≤ 2) : v_M G l yX12_take cX12_take 5 none rm_X12_take [.ref 55, .int (nI c), .int (nI mm), .int one, .int oth] (K, I, J, R) (v_Qv G (fun (M' : v_MM) => ∃ I', M' = (K, I', J, R) ∧ MCh I' (w_tk true (c, mm, one, oth) z) ∧ mB I I')) := by
  refine v_of [some (.ref 55), some (.int (nI c)), some (.int (nI mm)), some (.int one), some (.int oth)] (by decide) (Nat.le_of_ble_eq_true rfl) (Nat.le_of_ble_eq_true rfl) rfl ?_
  rcases z with - | d
  · have h1 : I 55 30 = -1 := h
    refine v_aload_n (pc := 0) dX12_take_0 rfl rfl ?_
    refine v_getV (pc := 1) fg_X12_102_12 dX12_take_1 (li_55 hL) h1 ?_
    refine v_if_lt (pc := 4) (tgt := 32) dX12_take_4 (by decide) (fun c4 => ?_) (fun c4 => ?_)
    · refine v_aload_n (pc := 32) dX12_take_32 rfl rfl ?_
      refine v_iload_n (pc := 33) dX12_take_33 rfl rfl ?_
      refine v_putI (pc := 34) pg_X12_99_12 (fun h => by cases h) dX12_take_34 (li_55 hL) rfl rfl ?_
      refine v_aload_n (pc := 37) dX12_take_37 rfl rfl ?_
      refine v_iload_n (pc := 38) dX12_take_38 rfl rfl ?_
      refine v_putI (pc := 39) pg_X12_102_12 (fun h => by cases h) dX12_take_39 (li_55 hL) rfl rfl ?_
      refine v_aload_n (pc := 42) dX12_take_42 rfl rfl ?_
      refine v_iload_n (pc := 43) dX12_take_43 rfl rfl ?_
      refine v_putI (pc := 44) pg_X12_105_12 (fun h => by cases h) dX12_take_44 (li_55 hL) rfl rfl ?_
      refine v_aload_n (pc := 47) dX12_take_47 rfl rfl ?_
      refine v_iload (pc := 48) dX12_take_48 rfl ?_
      refine v_putI (pc := 50) pg_X12_108_12 (fun h => by cases h) dX12_take_50 (li_55 hL) rfl rfl ?_
      exact v_vret (pc := 53) dX12_take_53 rfl (Nat.le_of_ble_eq_true rfl) (Nat.le_of_ble_eq_true rfl) ⟨_, rfl, MCh_4, mB_4⟩
    · exact absurd (show (-1 : Int32) < 0 by decide) c4
  · obtain ⟨hd1, hd2⟩ := hz d rfl
    have h1 : I 55 30 = nI d.2.1 := h.2.1
    have h2 : I 55 29 = nI d.1 := h.1
    refine v_aload_n (pc := 0) dX12_take_0 rfl rfl ?_
    refine v_getV (pc := 1) fg_X12_102_12 dX12_take_1 (li_55 hL) h1 ?_
    refine v_if_ltN (pc := 4) (tgt := 32) (by omega) dX12_take_4 (by decide) ?_
    refine v_iload_n (pc := 7) dX12_take_7 rfl rfl ?_
    refine v_aload_n (pc := 8) dX12_take_8 rfl rfl ?_
    refine v_getV (pc := 9) fg_X12_99_12 dX12_take_9 (li_55 hL) h2 ?_
    refine v_icmp_gtN (pc := 12) (tgt := 31) ⟨by omega, by omega⟩ dX12_take_12 (by decide) (fun c12 => ?_) (fun c12 => ?_)
    · exact v_vret (pc := 31) dX12_take_31 rfl (Nat.le_of_ble_eq_true rfl) (Nat.le_of_ble_eq_true rfl) (by first | exact ⟨_, rfl, by rw [tk_ge (show ¬ c < d.1 by omega)]; exact h, mB_rf⟩ | exact ⟨_, rfl, by rw [tk_lt (show c < d.1 by omega)]; exact MCh_4, mB_4⟩)
    · refine v_iload_n (pc := 15) dX12_take_15 rfl rfl ?_
      refine v_aload_n (pc := 16) dX12_take_16 rfl rfl ?_
      refine v_getV (pc := 17) fg_X12_99_12 dX12_take_17 (li_55 hL) h2 ?_
      refine v_icmp_neN (pc := 20) (tgt := 32) ⟨by omega, by omega⟩ dX12_take_20 (by decide) (fun c20 => ?_) (fun c20 => ?_)
      · refine v_aload_n (pc := 32) dX12_take_32 rfl rfl ?_
        refine v_iload_n (pc := 33) dX12_take_33 rfl rfl ?_
        refine v_putI (pc := 34) pg_X12_99_12 (fun h => by cases h) dX12_take_34 (li_55 hL) rfl rfl ?_
        refine v_aload_n (pc := 37) dX12_take_37 rfl rfl ?_
        refine v_iload_n (pc := 38) dX12_take_38 rfl rfl ?_
        refine v_putI (pc := 39) pg_X12_102_12 (fun h => by cases h) dX12_take_39 (li_55 hL) rfl rfl ?_
        refine v_aload_n (pc := 42) dX12_take_42 rfl rfl ?_
        refine v_iload_n (pc := 43) dX12_take_43 rfl rfl ?_
        refine v_putI (pc := 44) pg_X12_105_12 (fun h => by cases h) dX12_take_44 (li_55 hL) rfl rfl ?_
        refine v_aload_n (pc := 47) dX12_take_47 rfl rfl ?_
        refine v_iload (pc := 48) dX12_take_48 rfl ?_
        refine v_putI (pc := 50) pg_X12_108_12 (fun h => by cases h) dX12_take_50 (li_55 hL) rfl rfl ?_
        exact v_vret (pc := 53) dX12_take_53 rfl (Nat.le_of_ble_eq_true rfl) (Nat.le_of_ble_eq_true rfl) (by first | exact ⟨_, rfl, by rw [tk_ge (show ¬ c < d.1 by omega)]; exact h, mB_rf⟩ | exact ⟨_, rfl, by rw [tk_lt (show c < d.1 by omega)]; exact MCh_4, mB_4⟩)
      · refine v_iload_n (pc := 23) dX12_take_23 rfl rfl ?_
        refine v_aload_n (pc := 24) dX12_take_24 rfl rfl ?_
        refine v_getV (pc := 25) fg_X12_102_12 dX12_take_25 (li_55 hL) h1 ?_
        refine v_icmp_ltN (pc := 28) (tgt := 32) ⟨by omega, by omega⟩ dX12_take_28 (by decide) (fun c28 => ?_) (fun c28 => ?_)
        · exact absurd c28 (by omega)
        · exact v_vret (pc := 31) dX12_take_31 rfl (Nat.le_of_ble_eq_true rfl) (Nat.le_of_ble_eq_true rfl) (by first | exact ⟨_, rfl, by rw [tk_ge (show ¬ c < d.1 by omega)]; exact h, mB_rf⟩ | exact ⟨_, rfl, by rw [tk_lt (show c < d.1 by omega)]; exact MCh_4, mB_4⟩)
