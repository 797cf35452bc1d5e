/-! THE REFERENCE: the text's bytes, its two stacks in memory -/
def MTx (I : Nat → Nat → Int32) (T : List Nat) : Prop := I 55 10 = nI T.length ∧ T.length ≤ 100 ∧ ∀ (j c : Nat), T[j]? = some c → I 61 j = nI c ∧ c < 128
def w_let : List Nat := [119, 97, 110, 116, 109, 97, 107, 101, 98, 114, 101, 97, 107]
def ML (I : Nat → Nat → Int32) : Prop := ∀ (j c : Nat), w_let[j]? = some c → I 69 j = nI c
def pkI (T : List Nat) (i : Nat) : Int32 := if i < T.length then nI (tx T i) else -1
theorem tx_128 {I : Nat → Nat → Int32} {T : List Nat} (h : MTx I T) {i : Nat} (hi : i < T.length) : tx T i < 128 := by
  have e : T[i]? = some T[i] := List.getElem?_eq_getElem hi
  rw [tx_s e]; exact (h.2.2 i _ e).2
theorem tq_eq {I : Nat → Nat → Int32} {T : List Nat} (h : MTx I T) {i c : Nat} (hc : c < 128) : pkI T i = nI c ↔ tx T i = c := by
  unfold pkI
  split
  · rename_i hi
    have := tx_128 h hi
    exact v_nI_eq (by omega) (by omega)
  · rename_i hi
    rw [tx_ge (by omega)]
    constructor
    · intro q
      have := congrArg Int32.toInt q
      rw [nI_toInt (by omega)] at this
      have e : (-1 : Int32).toInt = -1 := rfl
      omega
    · intro q; omega
theorem tq_rng {I : Nat → Nat → Int32} {T : List Nat} (h : MTx I T) {i a b : Nat} (ha : a < 128) (hb : b < 128) : (nI a ≤ pkI T i ∧ pkI T i ≤ nI b) ↔ (a ≤ tx T i ∧ tx T i ≤ b) := by
  unfold pkI
  split
  · rename_i hi
    have := tx_128 h hi
    rw [Int32.le_iff_toInt_le, Int32.le_iff_toInt_le, nI_toInt (by omega), nI_toInt (by omega), nI_toInt (by omega)]
    omega
  · rename_i hi
    rw [tx_ge (by omega), Int32.le_iff_toInt_le, Int32.le_iff_toInt_le, nI_toInt (by omega), nI_toInt (by omega)]
    have e : (-1 : Int32).toInt = -1 := rfl
    rw [e]; omega
theorem tq_n {T : List Nat} {i : Nat} (h : tx T i ≠ 200) : pkI T i = nI (tx T i) := if_pos (tx_lt h)
def SKr (I : Nat → Nat → Int32) : List Nat → Prop
  | [] => True
  | c :: S => I 68 S.length = nI c ∧ c < 128 ∧ SKr I S
theorem SKr_c {I I' : Nat → Nat → Int32} : ∀ {S : List Nat}, SKr I S → (∀ z, z < S.length → I' 68 z = I 68 z) → SKr I' S
  | [], _, _ => trivial
  | c :: S, h, e => ⟨(e _ (Nat.lt_succ_self _)).trans h.1, h.2.1, SKr_c h.2.2 (fun z hz => e z (Nat.lt_succ_of_lt hz))⟩
/-- what a clause's reading may write -/
def m_py (c s0 a z : Nat) : Prop := a = 68 ∨ (a = 55 ∧ (z = 11 ∨ z = 12 ∨ z = 21 ∨ z = 22 ∨ z = 23)) ∨ (a = 67 ∧ s0 ≤ z) ∨ ((a = 65 ∨ a = 66) ∧ z = c ∧ c < 60)
def mY (c s0 : Nat) (I I' : Nat → Nat → Int32) : Prop := ∀ a z, ¬ m_py c s0 a z → I' a z = I a z
theorem mY_rf {c s0 : Nat} {I : Nat → Nat → Int32} : mY c s0 I I := fun _ _ _ => rfl
theorem mY_tr {c s0 : Nat} {I I' I'' : Nat → Nat → Int32} (h : mY c s0 I I') (h' : mY c s0 I' I'') : mY c s0 I I'' := fun a z n => (h' a z n).trans (h a z n)
theorem mY_u {c s0 : Nat} {I I' : Nat → Nat → Int32} (h : mY c s0 I I') {a z : Nat} {x : Int32} (n : m_py c s0 a z) : mY c s0 I (v_u I' a z x) := fun b y m => (if_neg (fun e => m (by rw [e.1, e.2]; exact n))).trans (h b y m)
theorem mY_at {c s0 : Nat} {I I' : Nat → Nat → Int32} (h : mY c s0 I I') {z : Nat} {x : Int32} (n : z = 11 ∨ z = 12 ∨ z = 21 ∨ z = 22 ∨ z = 23) : mY c s0 I (v_u I' 55 z x) := mY_u h (Or.inr (Or.inl ⟨rfl, n⟩))
theorem mY_up {c s0 : Nat} {I I' : Nat → Nat → Int32} (h : mY 1000 s0 I I') : mY c s0 I I' := fun a z n => h a z (fun e => n (e.elim Or.inl (fun y => Or.inr (y.elim Or.inl (fun y => Or.inr (y.elim Or.inl (fun y => absurd y.2.2 (by decide))))))))
def mD (I I' : Nat → Nat → Int32) : Prop := ∀ a z, ¬ (a = 55 ∧ (z = 11 ∨ z = 12)) → I' a z = I a z
theorem mD_Y {c s0 : Nat} {I I' : Nat → Nat → Int32} (h : mD I I') : mY c s0 I I' := fun a z n => h a z (fun e => n (Or.inr (Or.inl ⟨e.1, e.2.elim Or.inl (fun y => Or.inr (Or.inl y))⟩)))
theorem MTx_Y {c s0 : Nat} {I I' : Nat → Nat → Int32} {T : List Nat} (h : MTx I T) (j : mY c s0 I I') : MTx I' T := by
  refine ⟨(j _ _ (by simp [m_py])).trans h.1, h.2.1, fun k q hk => ⟨(j _ _ (by simp [m_py])).trans (h.2.2 k q hk).1, (h.2.2 k q hk).2⟩⟩
theorem ML_Y {c s0 : Nat} {I I' : Nat → Nat → Int32} (h : ML I) (j : mY c s0 I I') : ML I' := fun k q hk => (j _ _ (by simp [m_py])).trans (h k q hk)
/-- the reading of a clause: at i, what waits, what is kept from s0 on -/
def PX (I : Nat → Nat → Int32) (T : List Nat) (f s0 i : Nat) (S ks : List Nat) : Prop := MTx I T ∧ I 55 11 = nI i ∧ i ≤ T.length ∧ I 55 22 = nI S.length ∧ I 55 23 = nI (opens S) ∧ SKr I S ∧ I 55 21 = nI (s0 + ks.length) ∧ (∀ (j k : Nat), ks[j]? = some k → I 67 (s0 + j) = m_tok k) ∧ s0 + ks.length + S.length ≤ 100 * f + i ∧ S.length ≤ i ∧ f < 6
theorem opens_le : ∀ S, opens S ≤ S.length
  | [] => Nat.le_refl _
  | c :: S => by
    have := opens_le S
    show opens S + (if _ then 1 else 0) ≤ S.length + 1
    split <;> omega
theorem PX_at {I I' : Nat → Nat → Int32} {T : List Nat} {f s0 i i' : Nat} {S ks : List Nat} (h : PX I T f s0 i S ks) (j : mD I I') (e : I' 55 11 = nI i') (h1 : i ≤ i') (h2 : i' ≤ T.length) : PX I' T f s0 i' S ks := by
  obtain ⟨a1, a2, a3, a4, a5, a6, a7, a8, a9, a10, a11⟩ := h
  exact ⟨MTx_Y a1 (mD_Y (c := 0) (s0 := 0) j), e, h2, (j _ _ (by decide)).trans a4, (j _ _ (by decide)).trans a5, SKr_c a6 (fun z _ => j _ _ (by simp)), (j _ _ (by decide)).trans a7, fun q k hk => (j _ _ (by simp)).trans (a8 q k hk), by omega, by omega, a11⟩
theorem mD_at {I : Nat → Nat → Int32} {x : Int32} : mD I (v_u I 55 11 x) := fun a z n => if_neg (fun e => n ⟨e.1, Or.inl e.2⟩)
theorem mD_rf {I : Nat → Nat → Int32} : mD I I := fun _ _ _ => rfl
theorem mD_u {I I' : Nat → Nat → Int32} (h : mD I I') {k : Nat} {x : Int32} (hk : k = 11 ∨ k = 12) : mD I (v_u I' 55 k x) := fun a z n => (if_neg (fun e => n ⟨e.1, by rw [e.2]; exact hk⟩)).trans (h a z n)
theorem toks_app {I : Nat → Nat → Int32} {s0 k : Nat} {ks : List Nat} (h : ∀ (j q : Nat), ks[j]? = some q → I 67 (s0 + j) = m_tok q) (e : I 67 (s0 + ks.length) = m_tok k) : ∀ (j q : Nat), (ks ++ [k])[j]? = some q → I 67 (s0 + j) = m_tok q := by
  intro j q hj
  rcases Nat.lt_trichotomy j ks.length with z | z | z
  · rw [List.getElem?_append_left z] at hj; exact h j q hj
  · subst z
    rw [List.getElem?_append_right (Nat.le_refl _), Nat.sub_self] at hj
    cases hj; exact e
  · rw [List.getElem?_append_right (Nat.le_of_lt z), List.getElem?_eq_none (by show 1 ≤ _; omega)] at hj
    cases hj
/-- one that waits on top becomes a step -/
theorem PX_pop {I I' : Nat → Nat → Int32} {T : List Nat} {f s0 i c k : Nat} {S ks : List Nat} (h : PX I T f s0 i (c :: S) ks) (j : ∀ a z, ¬ (a = 55 ∧ (z = 22 ∨ z = 23 ∨ z = 21)) → ¬ (a = 67 ∧ z = s0 + ks.length) → I' a z = I a z)
    (e1 : I' 55 22 = nI S.length) (e2 : I' 55 23 = nI (opens S)) (e3 : I' 55 21 = nI (s0 + ks.length + 1)) (e4 : I' 67 (s0 + ks.length) = m_tok k) : PX I' T f s0 i S (ks ++ [k]) := by
  obtain ⟨a1, a2, a3, a4, a5, a6, a7, a8, a9, a10, a11⟩ := h
  have hl : (c :: S).length = S.length + 1 := rfl
  refine ⟨⟨(j _ _ (by decide) (by simp)).trans a1.1, a1.2.1, fun q x hx => ⟨(j _ _ (by simp) (by simp)).trans (a1.2.2 q x hx).1, (a1.2.2 q x hx).2⟩⟩, (j _ _ (by decide) (by simp)).trans a2, a3, e1, e2, SKr_c a6.2.2 (fun z _ => j _ _ (by simp) (by simp)), by rw [e3, List.length_append]; rfl, toks_app (fun q x hx => ?_) e4, by rw [List.length_append]; show s0 + (ks.length + 1) + S.length ≤ _; omega, by omega, a11⟩
  have hq := (List.getElem?_eq_some_iff.mp hx).1
  exact (j _ _ (by simp) (by omega)).trans (a8 q x hx)
/-- a step more -/
theorem PX_em {I : Nat → Nat → Int32} {T : List Nat} {f s0 i k : Nat} {S ks : List Nat} (h : PX I T f s0 i S ks) (hb : s0 + ks.length + 1 + S.length ≤ 100 * f + i) : PX (v_u (v_u I 67 (s0 + ks.length) (m_tok k)) 55 21 (nI (s0 + ks.length + 1))) T f s0 i S (ks ++ [k]) := by
  obtain ⟨a1, a2, a3, a4, a5, a6, a7, a8, a9, a10, a11⟩ := h
  have e : ∀ a z, ¬ (a = 55 ∧ z = 21) → ¬ (a = 67 ∧ z = s0 + ks.length) → v_u (v_u I 67 (s0 + ks.length) (m_tok k)) 55 21 (nI (s0 + ks.length + 1)) a z = I a z := fun a z n1 n2 => (if_neg n1).trans (if_neg n2)
  refine ⟨⟨(e _ _ (by decide) (by simp)).trans a1.1, a1.2.1, fun q x hx => ⟨(e _ _ (by simp) (by simp)).trans (a1.2.2 q x hx).1, (a1.2.2 q x hx).2⟩⟩, (e _ _ (by decide) (by simp)).trans a2, a3, (e _ _ (by decide) (by simp)).trans a4, (e _ _ (by decide) (by simp)).trans a5, SKr_c a6 (fun z _ => e _ _ (by simp) (by simp)), by rw [v_u_same, List.length_append]; rfl, toks_app (fun q x hx => ?_) (by rw [v_u_h (by decide), v_u_same]), by rw [List.length_append]; show s0 + (ks.length + 1) + S.length ≤ _; omega, a10, a11⟩
  have hq := (List.getElem?_eq_some_iff.mp hx).1
  exact (e _ _ (by simp) (by omega)).trans (a8 q x hx)
theorem x_wh_ne {c : Nat} {S ks : List Nat} (h : ¬ c = 33) : x_wh (c :: S) ks = (c :: S, ks) := if_neg h
theorem x_wh_len : ∀ (S ks : List Nat), (x_wh S ks).2.length + (x_wh S ks).1.length ≤ ks.length + S.length
  | [], ks => Nat.le_refl _
  | c :: S, ks => by
    unfold x_wh
    split
    · have := x_wh_len S (ks ++ [0])
      rw [List.length_append] at this
      have e : [0].length = 1 := rfl
      have e2 : (c :: S).length = S.length + 1 := rfl
      omega
    · exact Nat.le_refl _
theorem dg_pk {I : Nat → Nat → Int32} {T : List Nat} (h : MTx I T) {i : Nat} : (nI 48 ≤ pkI T i ∧ pkI T i ≤ nI 57) ↔ dg (tx T i) = true := by
  rw [tq_rng h (by decide) (by decide)]; exact decide_eq_true_iff.symm
abbrev rm_X12_peek : Room := { frames := 0, cells := 0, slots := 0, locals := 0 }
set_option maxRecDepth 20000 in
theorem c_X12_peek (G : v_G) (l : Launch) {K : Nat × v_TY} {I : Nat → Nat → Int32} {J : Nat → Nat → Int64} {R : Nat → Nat → Option Nat} (hL : Lay K R) {T : List Nat} {i : Nat} (hT : MTx I T) (ha : I 55 11 = nI i) (hi : i ≤ T.length) : v_M G l yX12_peek cX12_peek 1 (some .int) rm_X12_peek [.ref 55] (K, I, J, R) (v_Qi G (fun (x : Int32) (M' : v_MM) => x = pkI T i ∧ M' = (K, I, J, R))) := by
  refine v_of [some (.ref 55)] (by decide) (Nat.le_of_ble_eq_true rfl) (Nat.le_of_ble_eq_true rfl) rfl ?_
  have h100 := hT.2.1
  refine v_aload_n (pc := 0) dX12_peek_0 rfl rfl ?_
  refine v_getV (pc := 1) fg_X12_44_12 dX12_peek_1 (li_55 hL) ha ?_
  refine v_aload_n (pc := 4) dX12_peek_4 rfl rfl ?_
  refine v_getV (pc := 5) fg_X12_41_12 dX12_peek_5 (li_55 hL) hT.1 ?_
  refine v_icmp_geN (pc := 8) (tgt := 23) ⟨by omega, by omega⟩ dX12_peek_8 (by decide) (fun c8 => ?_) (fun c8 => ?_)
  · refine v_iconst (pc := 23) (v := -1) dX12_peek_23 (by decide) ?_
    exact v_iret (pc := 24) dX12_peek_24 rfl rfl (Nat.le_of_ble_eq_true rfl) (Nat.le_of_ble_eq_true rfl) ⟨by unfold pkI; first | (rw [if_pos (by omega)]; done) | (rw [if_neg (by omega)]; done), rfl⟩
  · obtain ⟨c, hc⟩ : ∃ c, T[i]? = some c := ⟨_, List.getElem?_eq_getElem (show i < T.length by omega)⟩
    refine v_aload_n (pc := 11) dX12_peek_11 rfl rfl ?_
    refine v_getH (pc := 12) fg_X12_50_12 dX12_peek_12 (li_55 hL) (lr_55_13 hL) ?_
    refine v_aload_n (pc := 15) dX12_peek_15 rfl rfl ?_
    refine v_getV (pc := 16) fg_X12_44_12 dX12_peek_16 (li_55 hL) ha ?_
    refine v_ialoadN (pc := 19) dX12_peek_19 (li_61 hL) ⟨by omega, by omega⟩ ((hT.2.2 i c hc).1.trans (congrArg nI (tx_s hc).symm)) ?_
    refine v_goto (pc := 20) (tgt := 24) dX12_peek_20 (by decide) ?_
    exact v_iret (pc := 24) dX12_peek_24 rfl rfl (Nat.le_of_ble_eq_true rfl) (Nat.le_of_ble_eq_true rfl) ⟨by unfold pkI; first | (rw [if_pos (by omega)]; done) | (rw [if_neg (by omega)]; done), rfl⟩
abbrev rm_X12_takes : Room := { frames := 1, cells := 0, slots := 0, locals := 20 }
set_option maxRecDepth 20000 in
theorem c_X12_takes (G : v_G) (l : Launch) {K : Nat × v_TY} {I : Nat → Nat → Int32} {J : Nat → Nat → Int64} {R : Nat → Nat → Option Nat} (hL : Lay K R) {c : Nat} {T : List Nat} {i : Nat} (hT : MTx I T) (ha : I 55 11 = nI i) (hi : i ≤ T.length) (hc : c < 128) : v_M G l yX12_takes cX12_takes 2 (some .boolean) rm_X12_takes [.ref 55, .int (nI c)] (K, I, J, R) (v_Qi G (fun (x : Int32) (M' : v_MM) => x = v_p ((p_ch T c i).2.isSome = true) ∧ M' = (K, v_u I 55 11 (nI (p_ch T c i).1), J, R))) := by
  refine v_of [some (.ref 55), some (.int (nI c))] (by decide) (Nat.le_of_ble_eq_true rfl) (Nat.le_of_ble_eq_true rfl) rfl ?_
  have h100 := hT.2.1
  refine v_aload_n (pc := 0) dX12_takes_0 rfl rfl ?_
  refine v_ci (pc := 1) (v_rV (c_X12_peek G l hL hT ha hi) rfl kV_X12_229 (v_rcO (li_55 hL) rfl (by decide)) ⟨Nat.le_of_ble_eq_true rfl, Nat.le_of_ble_eq_true rfl⟩ ⟨Nat.le_of_ble_eq_true rfl, Nat.le_of_ble_eq_true rfl⟩ dX12_takes_1 (Nat.le_of_ble_eq_true rfl)) (fun x1 M1 h1 => ?_)
  obtain ⟨rfl, rfl⟩ := h1
  refine v_iload_n (pc := 4) dX12_takes_4 rfl rfl ?_
  refine v_icmp_eq (pc := 5) (tgt := 10) dX12_takes_5 (by decide) (fun c5 => ?_) (fun c5 => ?_)
  · rw [tq_eq hT hc] at c5
    have er : p_ch T c i = (i + 1, some 0) := if_pos c5
    refine v_aload_n (pc := 10) dX12_takes_10 rfl rfl ?_
    refine v_dup (pc := 11) dX12_takes_11 rfl ?_
    refine v_getV (pc := 12) fg_X12_44_12 dX12_takes_12 (li_55 hL) ha ?_
    refine v_iconst (pc := 15) (v := nI 1) dX12_takes_15 (by decide) ?_
    refine v_iaddN (pc := 16) dX12_takes_16 ?_
    refine v_putI (pc := 17) pg_X12_44_12 (fun h => by cases h) dX12_takes_17 (li_55 hL) rfl rfl ?_
    refine v_iconst (pc := 20) (v := nI 1) dX12_takes_20 (by decide) ?_
    exact v_iret (pc := 21) dX12_takes_21 rfl rfl (Nat.le_of_ble_eq_true rfl) (Nat.le_of_ble_eq_true rfl) ⟨by first | (rw [er]; exact v_po rfl) | (rw [er]; exact v_pz Bool.false_ne_true), by first | (rw [er]; done) | (rw [er, v_u_id ha])⟩
  · rw [tq_eq hT hc] at c5
    have er : p_ch T c i = (i, none) := if_neg c5
    refine v_iconst (pc := 8) (v := nI 0) dX12_takes_8 (by decide) ?_
    exact v_iret (pc := 9) dX12_takes_9 rfl rfl (Nat.le_of_ble_eq_true rfl) (Nat.le_of_ble_eq_true rfl) ⟨by first | (rw [er]; exact v_po rfl) | (rw [er]; exact v_pz Bool.false_ne_true), by first | (rw [er]; done) | (rw [er, v_u_id ha])⟩
theorem p_str_c {T : List Nat} {c : Nat} {l : List Nat} {i : Nat} : p_str T (c :: l) i = p_b (p_ch T c i) (fun q _ => p_str T l q) := by
  show (if tx T i = c then p_str T l (i + 1) else (i, none)) = _
  unfold p_ch
  split <;> rfl
theorem p_str_1 {T : List Nat} {c i : Nat} : p_str T [c] i = p_ch T c i := rfl
theorem MTx_at {I : Nat → Nat → Int32} {T : List Nat} {x : Int32} (h : MTx I T) : MTx (v_u I 55 11 x) T := MTx_Y h (mD_Y (c := 0) (s0 := 0) mD_at)
abbrev rm_X12_takesWord : Room := { frames := 2, cells := 0, slots := 0, locals := 41 }
set_option maxRecDepth 20000 in
theorem c_X12_takesWord (G : v_G) (l : Launch) {K : Nat × v_TY} {I : Nat → Nat → Int32} {J : Nat → Nat → Int64} {R : Nat → Nat → Option Nat} (hL : Lay K R) {fr mn : Nat} {ls : List Nat} {T : List Nat} {i : Nat} (hT : MTx I T) (ha : I 55 11 = nI i) (hi : i ≤ T.length) (hl : ls.length = mn ∧ mn ≤ 5 ∧ fr ≤ 8) (hw : ∀ (j c : Nat), ls[j]? = some c → I 69 (fr + j) = nI c ∧ c < 128) : v_M G l yX12_takesWord cX12_takesWord 4 (some .boolean) rm_X12_takesWord [.ref 55, .int (nI fr), .int (nI mn)] (K, I, J, R) (v_Qi G (fun (x : Int32) (M' : v_MM) => x = v_p ((p_str T (ls ++ [32]) i).2.isSome = true) ∧ M' = (K, v_u I 55 11 (nI (p_str T (ls ++ [32]) i).1), J, R))) := by
  refine v_of [some (.ref 55), some (.int (nI fr)), some (.int (nI mn)), none] (by decide) (Nat.le_of_ble_eq_true rfl) (Nat.le_of_ble_eq_true rfl) rfl ?_
  refine v_iconst (pc := 0) (v := nI 0) dX12_takesWord_0 (by decide) ?_
  refine v_istore_n (pc := 1) dX12_takesWord_1 rfl (by decide) rfl ?_
  have h100 := hT.2.1
  have key : ∀ k, k ≤ mn → ∀ q : Nat, q ≤ T.length → p_str T (ls.drop k ++ [32]) q = p_str T (ls ++ [32]) i → v_V G l yX12_takesWord cX12_takesWord 4 (some .boolean) rm_X12_takesWord (v_Qi G (fun (x : Int32) (M' : v_MM) => x = v_p ((p_str T (ls ++ [32]) i).2.isSome = true) ∧ M' = (K, v_u I 55 11 (nI (p_str T (ls ++ [32]) i).1), J, R))) 0 0 2 [some (.ref 55), some (.int (nI fr)), some (.int (nI mn)), some (.int (nI k))] [] (K, v_u I 55 11 (nI q), J, R) := by
    refine v_down mn (fun k hk ih => ?_)
    intro q hq he
    have hT2 : MTx (v_u I 55 11 (nI q)) T := MTx_at hT
    refine v_iload_n (pc := 2) dX12_takesWord_2 rfl rfl ?_
    refine v_iload_n (pc := 3) dX12_takesWord_3 rfl rfl ?_
    refine v_icmp_geN (pc := 4) (tgt := 30) ⟨by omega, by omega⟩ dX12_takesWord_4 (by decide) (fun c4 => ?_) (fun c4 => ?_)
    · have ed : ls.drop k = [] := List.drop_eq_nil_of_le (by omega)
      rw [ed, List.nil_append, p_str_1] at he
      refine v_aload_n (pc := 30) dX12_takesWord_30 rfl rfl ?_
      refine v_bipush (pc := 31) (v := nI 32) dX12_takesWord_31 (by decide) ?_
      refine v_ci (pc := 33) (v_rV (c_X12_takes G l hL (c := 32) hT2 v_u_same hq (by decide)) rfl kV_X12_232 (v_rcO (li_55 hL) rfl (by decide)) ⟨Nat.le_of_ble_eq_true rfl, Nat.le_of_ble_eq_true rfl⟩ ⟨Nat.le_of_ble_eq_true rfl, Nat.le_of_ble_eq_true rfl⟩ dX12_takesWord_33 (Nat.le_of_ble_eq_true rfl)) (fun x33 M33 h33 => ?_)
      obtain ⟨rfl, rfl⟩ := h33
      rw [v_u_u]
      exact v_iret (pc := 36) dX12_takesWord_36 rfl (v_p_z rfl) (Nat.le_of_ble_eq_true rfl) (Nat.le_of_ble_eq_true rfl) ⟨by rw [he], by rw [he]⟩
    · obtain ⟨c, hc⟩ : ∃ c, ls[k]? = some c := ⟨_, List.getElem?_eq_getElem (show k < ls.length by omega)⟩
      have ed : ls.drop k = c :: ls.drop (k + 1) := by rw [List.drop_eq_getElem_cons (show k < ls.length by omega)]; congr 1; exact (List.getElem?_eq_some_iff.mp hc).2
      rw [ed, List.cons_append, p_str_c] at he
      refine v_aload_n (pc := 7) dX12_takesWord_7 rfl rfl ?_
      refine v_aload_n (pc := 8) dX12_takesWord_8 rfl rfl ?_
      refine v_getH (pc := 9) fg_X12_83_12 dX12_takesWord_9 (li_55 hL) (lr_55_24 hL) ?_
      refine v_iload_n (pc := 12) dX12_takesWord_12 rfl rfl ?_
      refine v_iload_n (pc := 13) dX12_takesWord_13 rfl rfl ?_
      refine v_iaddN (pc := 14) dX12_takesWord_14 ?_
      refine v_ialoadN (pc := 15) dX12_takesWord_15 (li_69 hL) ⟨by omega, by omega⟩ ((v_u_h (by decide)).trans (hw k c hc).1) ?_
      refine v_ci (pc := 16) (v_rV (c_X12_takes G l hL hT2 v_u_same hq (hw k c hc).2) rfl kV_X12_232 (v_rcO (li_55 hL) rfl (by decide)) ⟨Nat.le_of_ble_eq_true rfl, Nat.le_of_ble_eq_true rfl⟩ ⟨Nat.le_of_ble_eq_true rfl, Nat.le_of_ble_eq_true rfl⟩ dX12_takesWord_16 (Nat.le_of_ble_eq_true rfl)) (fun x16 M16 h16 => ?_)
      obtain ⟨rfl, rfl⟩ := h16
      rw [v_u_u]
      have hch : ∀ r, p_ch T c q = r → (r = (q, none) ∧ tx T q ≠ c) ∨ (r = (q + 1, some 0) ∧ tx T q = c) := fun r hr => by subst hr; unfold p_ch; split; exact Or.inr ⟨rfl, by assumption⟩; exact Or.inl ⟨rfl, by assumption⟩
      have hc128 := (hw k c hc).2
      rcases hch _ rfl with ⟨er, ec⟩ | ⟨er, ec⟩
      · rw [er] at he ⊢
        rw [p_b0] at he
        refine v_if_neP (pc := 19) (tgt := 24) dX12_takesWord_19 (by decide) (fun c19 => ?_) (fun c19 => ?_)
        · exact absurd c19 Bool.false_ne_true
        · refine v_iconst (pc := 22) (v := nI 0) dX12_takesWord_22 (by decide) ?_
          exact v_iret (pc := 23) dX12_takesWord_23 rfl rfl (Nat.le_of_ble_eq_true rfl) (Nat.le_of_ble_eq_true rfl) ⟨by rw [← he]; exact v_pz Bool.false_ne_true, by rw [← he]⟩
      · rw [er] at he ⊢
        rw [p_b1] at he
        have hq1 := tx_lt (T := T) (i := q) (by omega)
        refine v_if_neP (pc := 19) (tgt := 24) dX12_takesWord_19 (by decide) (fun c19 => ?_) (fun c19 => ?_)
        · refine v_iincN (pc := 24) (b := 1) dX12_takesWord_24 rfl (by decide) (by decide) rfl ?_
          refine v_goto (pc := 27) (tgt := 2) dX12_takesWord_27 (by decide) ?_
          exact ih (k + 1) (by omega) (by omega) (q + 1) (by omega) he
        · exact absurd rfl c19
  have e0 := key 0 (Nat.zero_le _) i hi rfl
  rw [v_u_id ha] at e0
  exact e0
abbrev rm_X12_isDigit : Room := { frames := 1, cells := 0, slots := 0, locals := 23 }
set_option maxRecDepth 20000 in
theorem c_X12_isDigit (G : v_G) (l : Launch) {K : Nat × v_TY} {I : Nat → Nat → Int32} {J : Nat → Nat → Int64} {R : Nat → Nat → Option Nat} (hL : Lay K R) {T : List Nat} {i : Nat} (hT : MTx I T) (ha : I 55 11 = nI i) (hi : i ≤ T.length) : v_M G l yX12_isDigit cX12_isDigit 1 (some .boolean) rm_X12_isDigit [.ref 55] (K, I, J, R) (v_Qi G (fun (x : Int32) (M' : v_MM) => x = v_p (dg (tx T i) = true) ∧ M' = (K, I, J, R))) := by
  refine v_of [some (.ref 55)] (by decide) (Nat.le_of_ble_eq_true rfl) (Nat.le_of_ble_eq_true rfl) rfl ?_
  refine v_aload_n (pc := 0) dX12_isDigit_0 rfl rfl ?_
  refine v_aload_n (pc := 1) dX12_isDigit_1 rfl rfl ?_
  refine v_ci (pc := 2) (v_rV (c_X12_peek G l hL hT ha hi) rfl kV_X12_229 (v_rcO (li_55 hL) rfl (by decide)) ⟨Nat.le_of_ble_eq_true rfl, Nat.le_of_ble_eq_true rfl⟩ ⟨Nat.le_of_ble_eq_true rfl, Nat.le_of_ble_eq_true rfl⟩ dX12_isDigit_2 (Nat.le_of_ble_eq_true rfl)) (fun x2 M2 h2 => ?_)
  obtain ⟨rfl, rfl⟩ := h2
  refine v_bipush (pc := 5) (v := nI 48) dX12_isDigit_5 (by decide) ?_
  refine v_bipush (pc := 7) (v := nI 57) dX12_isDigit_7 (by decide) ?_
  refine v_ci (pc := 9) (v_rV (c_X12_in G l hL) rfl kV_X12_197 (v_rcO (li_55 hL) rfl (by decide)) ⟨Nat.le_of_ble_eq_true rfl, Nat.le_of_ble_eq_true rfl⟩ ⟨Nat.le_of_ble_eq_true rfl, Nat.le_of_ble_eq_true rfl⟩ dX12_isDigit_9 (Nat.le_of_ble_eq_true rfl)) (fun x9 M9 h9 => ?_)
  obtain ⟨rfl, rfl⟩ := h9
  exact v_iret (pc := 12) dX12_isDigit_12 rfl (v_p_z rfl) (Nat.le_of_ble_eq_true rfl) (Nat.le_of_ble_eq_true rfl) ⟨v_p_c (dg_pk hT), rfl⟩
