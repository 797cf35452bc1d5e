/-! THE REFERENCE: clauses, the whole text, a town -/
theorem ML_0 {I : Nat → Nat → Int32} (h : ML I) : ∀ (j c : Nat), ([119, 97, 110, 116] : List Nat)[j]? = some c → I 69 (0 + j) = nI c ∧ c < 128 := fun j c hc => by
  rcases j with _ | _ | _ | _ | j <;> first | (cases hc; exact ⟨h _ _ rfl, by decide⟩) | (exact absurd hc (by simp))
theorem ML_4 {I : Nat → Nat → Int32} (h : ML I) : ∀ (j c : Nat), ([109, 97, 107, 101] : List Nat)[j]? = some c → I 69 (4 + j) = nI c ∧ c < 128 := fun j c hc => by
  rcases j with _ | _ | _ | _ | j <;> first | (cases hc; exact ⟨h _ _ rfl, by decide⟩) | (exact absurd hc (by simp))
theorem ML_8 {I : Nat → Nat → Int32} (h : ML I) : ∀ (j c : Nat), ([98, 114, 101, 97, 107] : List Nat)[j]? = some c → I 69 (8 + j) = nI c ∧ c < 128 := fun j c hc => by
  rcases j with _ | _ | _ | _ | _ | j <;> first | (cases hc; exact ⟨h _ _ rfl, by decide⟩) | (exact absurd hc (by simp))
def mC (c s0 : Nat) (I I' : Nat → Nat → Int32) : Prop := ∀ a z, ¬ m_py c s0 a z → ¬ ((a = 63 ∨ a = 64) ∧ z = c) → I' a z = I a z
theorem mC_rf {c s0 : Nat} {I : Nat → Nat → Int32} : mC c s0 I I := fun _ _ _ _ => rfl
theorem mC_Y {c s0 : Nat} {I I' I'' : Nat → Nat → Int32} (h : mC c s0 I I') (h' : mY c s0 I' I'') : mC c s0 I I'' := fun a z n m => (h' a z n).trans (h a z n m)
theorem mC_at {c s0 : Nat} {I I' : Nat → Nat → Int32} (h : mC c s0 I I') {x : Int32} : mC c s0 I (v_u I' 55 11 x) := mC_Y h (mY_at mY_rf (Or.inl rfl))
theorem mC_w {c s0 : Nat} {I I' : Nat → Nat → Int32} (h : mC c s0 I I') {x : Int32} : mC c s0 I (v_u I' 63 c x) := fun a z n m => (if_neg (fun e => m ⟨Or.inl e.1, e.2⟩)).trans (h a z n m)
theorem mC_n {c s0 : Nat} {I I' : Nat → Nat → Int32} (h : mC c s0 I I') {x : Int32} : mC c s0 I (v_u I' 64 c x) := fun a z n m => (if_neg (fun e => m ⟨Or.inr e.1, e.2⟩)).trans (h a z n m)
theorem MTx_C {c s0 : Nat} {I I' : Nat → Nat → Int32} {T : List Nat} (h : MTx I T) (j : mC c s0 I I') : MTx I' T := by
  refine ⟨(j _ _ (by simp [m_py]) (by simp)).trans h.1, h.2.1, fun k q hk => ⟨(j _ _ (by simp [m_py]) (by simp)).trans (h.2.2 k q hk).1, (h.2.2 k q hk).2⟩⟩
theorem ML_C {c s0 : Nat} {I I' : Nat → Nat → Int32} (h : ML I) (j : mC c s0 I I') : ML I' := fun k q hk => (j _ _ (by simp [m_py]) (by simp)).trans (h k q hk)
theorem hd_cases {I : Nat → Nat → Int32} {T : List Nat} (h : MTx I T) (i : Nat) : (pkI T i = nI 109 ∧ p_wd T i = 1) ∨ (pkI T i = nI 119 ∧ p_wd T i = 0) ∨ (p_wd T i = 2 ∧ (pkI T i).toInt ≠ 109 ∧ (pkI T i).toInt ≠ 119) := by
  by_cases c1 : tx T i = 109
  · exact Or.inl ⟨(tq_eq h (by decide)).mpr c1, by rw [p_wd, c1]; rfl⟩
  by_cases c2 : tx T i = 119
  · exact Or.inr (Or.inl ⟨(tq_eq h (by decide)).mpr c2, by rw [p_wd, c2]; rfl⟩)
  exact Or.inr (Or.inr ⟨by simp [p_wd, c1, c2], tq_ne h (by decide) c1, tq_ne h (by decide) c2⟩)
abbrev rm_X12_takesHead : Room := { frames := 3, cells := 0, slots := 0, locals := 64 }
set_option maxRecDepth 20000 in
theorem c_X12_takesHead (G : v_G) (l : Launch) {K : Nat × v_TY} {I : Nat → Nat → Int32} {J : Nat → Nat → Int64} {R : Nat → Nat → Option Nat} (hL : Lay K R) {c : Nat} {T : List Nat} {i : Nat} (hT : MTx I T) (ha : I 55 11 = nI i) (hi : i ≤ T.length) (hML : ML I) (hc : c < 60) : v_M G l yX12_takesHead cX12_takesHead 2 (some .boolean) rm_X12_takesHead [.ref 55, .int (nI c)] (K, I, J, R) (v_Qi G (fun (x : Int32) (M' : v_MM) => x = v_p ((p_str T (w_str (p_wd T i)) i).2.isSome = true) ∧ M' = (K, v_u (v_u I 63 c (nI (p_wd T i))) 55 11 (nI (p_str T (w_str (p_wd T i)) i).1), J, R))) := by
  refine v_of [some (.ref 55), some (.int (nI c))] (by decide) (Nat.le_of_ble_eq_true rfl) (Nat.le_of_ble_eq_true rfl) rfl ?_
  refine v_aload_n (pc := 0) dX12_takesHead_0 rfl rfl ?_
  refine v_ci (pc := 1) (v_rV (c_X12_peek G l hL hT ha hi) rfl kV_X12_229 (v_rcO (li_55 hL) rfl (by decide)) ⟨Nat.le_of_ble_eq_true rfl, Nat.le_of_ble_eq_true rfl⟩ ⟨Nat.le_of_ble_eq_true rfl, Nat.le_of_ble_eq_true rfl⟩ dX12_takesHead_1 (Nat.le_of_ble_eq_true rfl)) (fun x1 M1 h1 => ?_)
  obtain ⟨rfl, rfl⟩ := h1
  rcases hd_cases hT i with ⟨e1, e2⟩ | ⟨e1, e2⟩ | ⟨e2, e3⟩
  · rw [e1]
    refine v_lookup (pc := 4) (tgt := 46) dX12_takesHead_4 (by decide) rfl (by decide) ?_
    refine v_aload_n (pc := 46) dX12_takesHead_46 rfl rfl ?_
    refine v_getH (pc := 47) fg_X12_56_12 dX12_takesHead_47 (li_55 hL) (lr_55_15 hL) ?_
    refine v_iload_n (pc := 50) dX12_takesHead_50 rfl rfl ?_
    refine v_iconst (pc := 51) (v := nI 1) dX12_takesHead_51 (by decide) ?_
    refine v_iastoreN (pc := 52) dX12_takesHead_52 (li_63 hL) ⟨by omega, by omega⟩ ?_
    refine v_aload_n (pc := 53) dX12_takesHead_53 rfl rfl ?_
    refine v_iconst (pc := 54) (v := nI 4) dX12_takesHead_54 (by decide) ?_
    refine v_iconst (pc := 55) (v := nI 4) dX12_takesHead_55 (by decide) ?_
    refine v_ci (pc := 56) (v_rV (c_X12_takesWord G l hL (ls := [109, 97, 107, 101]) (MTx_C hT (mC_w (c := c) (s0 := 0) mC_rf)) ((v_u_h (by decide)).trans ha) hi ⟨rfl, by decide, by decide⟩ (fun j c hc => ⟨(v_u_h (by decide)).trans (ML_4 hML j c hc).1, (ML_4 hML j c hc).2⟩)) rfl kV_X12_258 (v_rcO (li_55 hL) rfl (by decide)) ⟨Nat.le_of_ble_eq_true rfl, Nat.le_of_ble_eq_true rfl⟩ ⟨Nat.le_of_ble_eq_true rfl, Nat.le_of_ble_eq_true rfl⟩ dX12_takesHead_56 (Nat.le_of_ble_eq_true rfl)) (fun x56 M56 h56 => ?_)
    obtain ⟨rfl, rfl⟩ := h56
    exact v_iret (pc := 59) dX12_takesHead_59 rfl (v_p_z rfl) (Nat.le_of_ble_eq_true rfl) (Nat.le_of_ble_eq_true rfl) ⟨by rw [e2]; rfl, by rw [e2]; rfl⟩
  · rw [e1]
    refine v_lookup (pc := 4) (tgt := 32) dX12_takesHead_4 (by decide) rfl (by decide) ?_
    refine v_aload_n (pc := 32) dX12_takesHead_32 rfl rfl ?_
    refine v_getH (pc := 33) fg_X12_56_12 dX12_takesHead_33 (li_55 hL) (lr_55_15 hL) ?_
    refine v_iload_n (pc := 36) dX12_takesHead_36 rfl rfl ?_
    refine v_iconst (pc := 37) (v := nI 0) dX12_takesHead_37 (by decide) ?_
    refine v_iastoreN (pc := 38) dX12_takesHead_38 (li_63 hL) ⟨by omega, by omega⟩ ?_
    refine v_aload_n (pc := 39) dX12_takesHead_39 rfl rfl ?_
    refine v_iconst (pc := 40) (v := nI 0) dX12_takesHead_40 (by decide) ?_
    refine v_iconst (pc := 41) (v := nI 4) dX12_takesHead_41 (by decide) ?_
    refine v_ci (pc := 42) (v_rV (c_X12_takesWord G l hL (ls := [119, 97, 110, 116]) (MTx_C hT (mC_w (c := c) (s0 := 0) mC_rf)) ((v_u_h (by decide)).trans ha) hi ⟨rfl, by decide, by decide⟩ (fun j c hc => ⟨(v_u_h (by decide)).trans (ML_0 hML j c hc).1, (ML_0 hML j c hc).2⟩)) rfl kV_X12_258 (v_rcO (li_55 hL) rfl (by decide)) ⟨Nat.le_of_ble_eq_true rfl, Nat.le_of_ble_eq_true rfl⟩ ⟨Nat.le_of_ble_eq_true rfl, Nat.le_of_ble_eq_true rfl⟩ dX12_takesHead_42 (Nat.le_of_ble_eq_true rfl)) (fun x42 M42 h42 => ?_)
    obtain ⟨rfl, rfl⟩ := h42
    exact v_iret (pc := 45) dX12_takesHead_45 rfl (v_p_z rfl) (Nat.le_of_ble_eq_true rfl) (Nat.le_of_ble_eq_true rfl) ⟨by rw [e2]; rfl, by rw [e2]; rfl⟩
  · refine v_lookup (pc := 4) (tgt := 60) dX12_takesHead_4 (by decide) (by show Op.lookupswitch.offset [(109, 42), (119, 28)] 56 (pkI T i).toInt = 56; simp only [Op.lookupswitch.offset]; rw [if_neg (by omega), if_neg (by omega)]) (by decide) ?_
    refine v_aload_n (pc := 60) dX12_takesHead_60 rfl rfl ?_
    refine v_getH (pc := 61) fg_X12_56_12 dX12_takesHead_61 (li_55 hL) (lr_55_15 hL) ?_
    refine v_iload_n (pc := 64) dX12_takesHead_64 rfl rfl ?_
    refine v_iconst (pc := 65) (v := nI 2) dX12_takesHead_65 (by decide) ?_
    refine v_iastoreN (pc := 66) dX12_takesHead_66 (li_63 hL) ⟨by omega, by omega⟩ ?_
    refine v_aload_n (pc := 67) dX12_takesHead_67 rfl rfl ?_
    refine v_bipush (pc := 68) (v := nI 8) dX12_takesHead_68 (by decide) ?_
    refine v_iconst (pc := 70) (v := nI 5) dX12_takesHead_70 (by decide) ?_
    refine v_ci (pc := 71) (v_rV (c_X12_takesWord G l hL (ls := [98, 114, 101, 97, 107]) (MTx_C hT (mC_w (c := c) (s0 := 0) mC_rf)) ((v_u_h (by decide)).trans ha) hi ⟨rfl, by decide, by decide⟩ (fun j c hc => ⟨(v_u_h (by decide)).trans (ML_8 hML j c hc).1, (ML_8 hML j c hc).2⟩)) rfl kV_X12_258 (v_rcO (li_55 hL) rfl (by decide)) ⟨Nat.le_of_ble_eq_true rfl, Nat.le_of_ble_eq_true rfl⟩ ⟨Nat.le_of_ble_eq_true rfl, Nat.le_of_ble_eq_true rfl⟩ dX12_takesHead_71 (Nat.le_of_ble_eq_true rfl)) (fun x71 M71 h71 => ?_)
    obtain ⟨rfl, rfl⟩ := h71
    exact v_iret (pc := 74) dX12_takesHead_74 rfl (v_p_z rfl) (Nat.le_of_ble_eq_true rfl) (Nat.le_of_ble_eq_true rfl) ⟨by rw [e2]; rfl, by rw [e2]; rfl⟩
abbrev rm_X12_takesClause : Room := { frames := 5, cells := 0, slots := 0, locals := 109 }
set_option maxRecDepth 20000 in
theorem c_X12_takesClause (G : v_G) (l : Launch) {K : Nat × v_TY} {I : Nat → Nat → Int32} {J : Nat → Nat → Int64} {R : Nat → Nat → Option Nat} (hL : Lay K R) {c f s0 : Nat} {T : List Nat} {i : Nat} (hT : MTx I T) (ha : I 55 11 = nI i) (hi : i ≤ T.length) (hML : ML I) (hs : I 55 21 = nI s0) (hb : s0 ≤ 100 * f + i ∧ f < 6) (hc : c < 60) : v_M G l yX12_takesClause cX12_takesClause 2 (some .boolean) rm_X12_takesClause [.ref 55, .int (nI c)] (K, I, J, R) (v_Qi G (fun (x : Int32) (M' : v_MM) => x = v_p ((p_cl T i).2.isSome = true) ∧ ∃ I', M' = (K, I', J, R) ∧ mC c s0 I I' ∧ I' 55 11 = nI (p_cl T i).1 ∧ ∀ q, (p_cl T i).2 = some q → I' 63 c = nI q.1 ∧ I' 64 c = nI q.2.1 ∧ CE I' c s0 q.2.2)) := by
  refine v_of [some (.ref 55), some (.int (nI c))] (by decide) (Nat.le_of_ble_eq_true rfl) (Nat.le_of_ble_eq_true rfl) rfl ?_
  refine v_aload_n (pc := 0) dX12_takesClause_0 rfl rfl ?_
  refine v_iload_n (pc := 1) dX12_takesClause_1 rfl rfl ?_
  refine v_ci (pc := 2) (v_rV (c_X12_takesHead G l hL hT ha hi hML hc) rfl kV_X12_261 (v_rcO (li_55 hL) rfl (by decide)) ⟨Nat.le_of_ble_eq_true rfl, Nat.le_of_ble_eq_true rfl⟩ ⟨Nat.le_of_ble_eq_true rfl, Nat.le_of_ble_eq_true rfl⟩ dX12_takesClause_2 (Nat.le_of_ble_eq_true rfl)) (fun x2 M2 h2 => ?_)
  obtain ⟨rfl, rfl⟩ := h2
  have hY2 := (mC_at (mC_w (c := c) (s0 := s0) (x := nI (p_wd T i)) (mC_rf (I := I))) (x := nI (p_str T (w_str (p_wd T i)) i).1))
  have h2T := MTx_C hT hY2
  have hs2 := p_str_ok (T := T) (w_str (p_wd T i)) i (w_str_lt _) hi
  have ecl : p_cl T i = p_b (p_str T (w_str (p_wd T i)) i) (fun q _ => p_b (p_num T q) (fun q2 n => p_b (p_ch T 32 q2) (fun q3 _ => p_b (p_E T 4 q3) (fun q4 ks => (q4, some (p_wd T i, n, ks)))))) := rfl
  rcases es : p_str T (w_str (p_wd T i)) i with ⟨q, _ | u⟩ <;> rw [es] at hs2 ecl hY2 h2T
  all_goals have h2i := hs2.1
  · have er : p_cl T i = (q, none) := ecl
    refine v_if_eqP (pc := 5) (tgt := 15) dX12_takesClause_5 (by decide) (fun c5 => ?_) (fun c5 => ?_)
    · refine v_iconst (pc := 15) (v := nI 0) dX12_takesClause_15 (by decide) ?_
      exact v_iret (pc := 16) dX12_takesClause_16 rfl rfl (Nat.le_of_ble_eq_true rfl) (Nat.le_of_ble_eq_true rfl) ⟨by rw [er]; exact v_pz Bool.false_ne_true, _, rfl, hY2, by rw [er]; exact v_u_same, fun ks hk => by rw [er] at hk; cases hk⟩
    · exact absurd c5 Bool.false_ne_true
  · rw [p_b1] at ecl
    refine v_if_eqP (pc := 5) (tgt := 15) dX12_takesClause_5 (by decide) (fun c5 => ?_) (fun c5 => ?_)
    · exact absurd rfl c5
    · refine v_aload_n (pc := 8) dX12_takesClause_8 rfl rfl ?_
      refine v_ci (pc := 9) (v_rV (c_X12_takesNumber G l hL h2T v_u_same h2i) rfl kV_X12_246 (v_rcO (li_55 hL) rfl (by decide)) ⟨Nat.le_of_ble_eq_true rfl, Nat.le_of_ble_eq_true rfl⟩ ⟨Nat.le_of_ble_eq_true rfl, Nat.le_of_ble_eq_true rfl⟩ dX12_takesClause_9 (Nat.le_of_ble_eq_true rfl)) (fun x9 M9 h9 => ?_)
      obtain ⟨rfl, I9, rfl, d9, a9, n9⟩ := h9
      have hn9 := p_num_ok (T := T) h2i
      dsimp only at h2i hn9
      rcases en : p_num T q with ⟨q2, _ | nn⟩ <;> rw [en] at hn9 a9 n9 ecl <;> dsimp only at a9
      · have er : p_cl T i = (q2, none) := ecl
        refine v_if_neP (pc := 12) (tgt := 17) dX12_takesClause_12 (by decide) (fun c12 => ?_) (fun c12 => ?_)
        · exact absurd c12 Bool.false_ne_true
        · refine v_iconst (pc := 15) (v := nI 0) dX12_takesClause_15 (by decide) ?_
          exact v_iret (pc := 16) dX12_takesClause_16 rfl rfl (Nat.le_of_ble_eq_true rfl) (Nat.le_of_ble_eq_true rfl) ⟨by rw [er]; exact v_pz Bool.false_ne_true, _, rfl, mC_Y hY2 (mD_Y d9), by rw [er]; exact a9, fun ks hk => by rw [er] at hk; cases hk⟩
      · rw [p_b1] at ecl
        have hn2 := hn9.2.2 nn rfl
        dsimp only at hn2 hn9
        have hY3 : mC c s0 I (v_u I9 64 c (nI nn)) := mC_n (mC_Y hY2 (mD_Y d9))
        have h3T := MTx_C hT hY3
        have h3i := hn9.1
        refine v_if_neP (pc := 12) (tgt := 17) dX12_takesClause_12 (by decide) (fun c12 => ?_) (fun c12 => ?_)
        · refine v_aload_n (pc := 17) dX12_takesClause_17 rfl rfl ?_
          refine v_getH (pc := 18) fg_X12_59_12 dX12_takesClause_18 (li_55 hL) (lr_55_16 hL) ?_
          refine v_iload_n (pc := 21) dX12_takesClause_21 rfl rfl ?_
          refine v_aload_n (pc := 22) dX12_takesClause_22 rfl rfl ?_
          refine v_getV (pc := 23) fg_X12_47_12 dX12_takesClause_23 (li_55 hL) (n9 nn rfl) ?_
          refine v_iastoreN (pc := 26) dX12_takesClause_26 (li_64 hL) ⟨by omega, by omega⟩ ?_
          refine v_aload_n (pc := 27) dX12_takesClause_27 rfl rfl ?_
          refine v_bipush (pc := 28) (v := nI 32) dX12_takesClause_28 (by decide) ?_
          refine v_ci (pc := 30) (v_rV (c_X12_takes G l hL (c := 32) h3T ((v_u_h (by decide)).trans a9) h3i (by decide)) rfl kV_X12_232 (v_rcO (li_55 hL) rfl (by decide)) ⟨Nat.le_of_ble_eq_true rfl, Nat.le_of_ble_eq_true rfl⟩ ⟨Nat.le_of_ble_eq_true rfl, Nat.le_of_ble_eq_true rfl⟩ dX12_takesClause_30 (Nat.le_of_ble_eq_true rfl)) (fun x30 M30 h30 => ?_)
          obtain ⟨rfl, rfl⟩ := h30
          have hch : (p_ch T 32 q2 = (q2, none)) ∨ (p_ch T 32 q2 = (q2 + 1, some 0) ∧ q2 < T.length) := by
            unfold p_ch
            by_cases c0 : tx T q2 = 32
            · exact Or.inr ⟨if_pos c0, tx_lt (by omega)⟩
            · exact Or.inl (if_neg c0)
          rcases hch with ec | ⟨ec, hlt⟩ <;> rw [ec] at ecl ⊢
          · have er : p_cl T i = (q2, none) := ecl
            refine v_if_eqP (pc := 33) (tgt := 48) dX12_takesClause_33 (by decide) (fun c33 => ?_) (fun c33 => ?_)
            · refine v_iconst (pc := 48) (v := nI 0) dX12_takesClause_48 (by decide) ?_
              exact v_iret (pc := 49) dX12_takesClause_49 rfl rfl (Nat.le_of_ble_eq_true rfl) (Nat.le_of_ble_eq_true rfl) ⟨by rw [er]; exact v_pz Bool.false_ne_true, _, rfl, mC_at hY3, by rw [er]; exact v_u_same, fun ks hk => by rw [er] at hk; cases hk⟩
            · exact absurd c33 Bool.false_ne_true
          · rw [p_b1] at ecl
            have hY4 : mC c s0 I (v_u (v_u I9 64 c (nI nn)) 55 11 (nI (q2 + 1))) := mC_at hY3
            have h4T := MTx_C hT hY4
            have h4i : q2 + 1 ≤ T.length := hlt
            have h4s : v_u (v_u I9 64 c (nI nn)) 55 11 (nI (q2 + 1)) 55 21 = nI s0 := (v_u_k (by decide)).trans ((v_u_h (by decide)).trans ((d9 _ _ (by decide)).trans ((v_u_k (by decide)).trans ((v_u_h (by decide)).trans hs))))
            refine v_if_eqP (pc := 33) (tgt := 48) dX12_takesClause_33 (by decide) (fun c33 => ?_) (fun c33 => ?_)
            · exact absurd rfl c33
            · refine v_aload_n (pc := 36) dX12_takesClause_36 rfl rfl ?_
              refine v_iload_n (pc := 37) dX12_takesClause_37 rfl rfl ?_
              refine v_ci (pc := 38) (v_rV (c_X12_takesE G l hL (f := f) h4T v_u_same h4i h4s ⟨by omega, hb.2⟩ hc) rfl kV_X12_264 (v_rcO (li_55 hL) rfl (by decide)) ⟨Nat.le_of_ble_eq_true rfl, Nat.le_of_ble_eq_true rfl⟩ ⟨Nat.le_of_ble_eq_true rfl, Nat.le_of_ble_eq_true rfl⟩ dX12_takesClause_38 (Nat.le_of_ble_eq_true rfl)) (fun x38 M38 h38 => ?_)
              obtain ⟨rfl, I38, rfl, y38, a38, e38⟩ := h38
              rcases eE : p_E T 4 (q2 + 1) with ⟨q4, _ | ks⟩ <;> rw [eE] at a38 e38 ecl <;> dsimp only at a38
              · have er : p_cl T i = (q4, none) := ecl
                refine v_if_eqP (pc := 41) (tgt := 48) dX12_takesClause_41 (by decide) (fun c41 => ?_) (fun c41 => ?_)
                · refine v_iconst (pc := 48) (v := nI 0) dX12_takesClause_48 (by decide) ?_
                  exact v_iret (pc := 49) dX12_takesClause_49 rfl rfl (Nat.le_of_ble_eq_true rfl) (Nat.le_of_ble_eq_true rfl) ⟨by rw [er]; exact v_pz Bool.false_ne_true, _, rfl, mC_Y hY4 y38, by rw [er]; exact a38, fun ks hk => by rw [er] at hk; cases hk⟩
                · exact absurd c41 Bool.false_ne_true
              · have er : p_cl T i = (q4, some (p_wd T i, nn, ks)) := ecl
                refine v_if_eqP (pc := 41) (tgt := 48) dX12_takesClause_41 (by decide) (fun c41 => ?_) (fun c41 => ?_)
                · exact absurd rfl c41
                · have hkN : I38 64 c = nI nn := (y38 _ _ (by simp [m_py])).trans ((v_u_h (by decide)).trans v_u_same)
                  have hkW : I38 63 c = nI (p_wd T i) := (y38 _ _ (by simp [m_py])).trans ((v_u_h (by decide)).trans ((v_u_h (by decide)).trans ((d9 _ _ (by simp)).trans ((v_u_h (by decide)).trans v_u_same))))
                  refine v_iconst (pc := 44) (v := nI 1) dX12_takesClause_44 (by decide) ?_
                  refine v_goto (pc := 45) (tgt := 49) dX12_takesClause_45 (by decide) ?_
                  exact v_iret (pc := 49) dX12_takesClause_49 rfl rfl (Nat.le_of_ble_eq_true rfl) (Nat.le_of_ble_eq_true rfl) ⟨by rw [er]; exact v_po rfl, _, rfl, mC_Y hY4 y38, by rw [er]; exact a38, fun qq hq => by rw [er] at hq; cases hq; exact ⟨hkW, hkN, e38 ks rfl⟩⟩
        · exact absurd rfl c12
