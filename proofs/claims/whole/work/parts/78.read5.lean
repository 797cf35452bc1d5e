/-! THE CLASS reads: a clause -/
theorem p_str_app {T : List Nat} {c : Nat} : ∀ (l : List Nat) (i : Nat), p_str T (l ++ [c]) i = p_b (p_str T l i) (fun q _ => if tx T q = c then (q + 1, some 0) else (q, none))
  | [], i => by
    show (if tx T i = c then p_str T [] (i + 1) else (i, none)) = (if tx T i = c then (i + 1, some 0) else (i, none))
    rfl
  | d :: l, i => by
    show (if tx T i = d then p_str T (l ++ [c]) (i + 1) else (i, none)) = p_b (if tx T i = d then p_str T l (i + 1) else (i, none)) _
    by_cases h : tx T i = d
    · rw [if_pos h, if_pos h]; exact p_str_app l (i + 1)
    · rw [if_neg h, if_neg h]; rfl
theorem w_str_s : ∀ k, k < 3 → w_str k = w_s k ++ [32] := by decide +kernel
theorem p_cl0 {T : List Nat} {i : Nat} (h : (p_str T (w_s (p_wd T i)) i).2 = none) : p_cl T i = ((p_str T (w_s (p_wd T i)) i).1, none) := by
  unfold p_cl
  rw [w_str_s _ (p_wd_lt T i), p_str_app, p_b_n h]; rfl
theorem p_cl1 {T : List Nat} {i a : Nat} (h : (p_str T (w_s (p_wd T i)) i).2 = some a) (h2 : ¬ tx T (p_str T (w_s (p_wd T i)) i).1 = 32) : p_cl T i = ((p_str T (w_s (p_wd T i)) i).1, none) := by
  unfold p_cl
  rw [w_str_s _ (p_wd_lt T i), p_str_app, p_b_s h, if_neg h2]; rfl
theorem p_cl2 {T : List Nat} {i a : Nat} (h : (p_str T (w_s (p_wd T i)) i).2 = some a) (h2 : tx T (p_str T (w_s (p_wd T i)) i).1 = 32) : p_cl T i = p_b (p_num T ((p_str T (w_s (p_wd T i)) i).1 + 1)) (fun q2 n => p_b (p_ch T 32 q2) (fun q3 _ => p_b (p_E T 4 q3) (fun q4 ks => (q4, some (p_wd T i, n, ks))))) := by
  unfold p_cl
  rw [w_str_s _ (p_wd_lt T i), p_str_app, p_b_s h, if_pos h2]; rfl
theorem CP7_w {I : Nat → Nat → Int32} {t : Nat} {T : List Nat} {i : Nat} {ks : List Nat} (h : CP7 I t T i ks) (d c : Nat) (x : Int32) (hd : 2 ≤ d ∧ d ≤ 4) : CP7 (v_u I (t + d) c x) t T i ks :=
  ⟨⟨(v_u_h (by omega)).trans h.1.1, h.1.2.1, fun j c e => by rw [v_u_h (by omega)]; exact h.1.2.2 j c e⟩, ⟨(v_u_h (by omega)).trans h.2.1.1, h.2.1.2⟩, ⟨(v_u_h (by omega)).trans h.2.2.1.1, h.2.2.1.2⟩, fun j k e => by rw [v_u_h (by omega)]; exact h.2.2.2 j k e⟩
def kC (t c : Nat) (I I' : Nat → Nat → Int32) : Prop := ∀ a z, ¬ (a = t ∧ (z = 0 ∨ z = 8)) → a ≠ t + 5 → ¬ ((a = t + 2 ∨ a = t + 3 ∨ a = t + 4) ∧ z = c) → I' a z = I a z
theorem kC_s {t c : Nat} {I I' : Nat → Nat → Int32} (h : kS t I I') : kC t c I I' := fun a z n1 n2 _ => h a z n1 n2
theorem kC_tr {t c : Nat} {I I' I'' : Nat → Nat → Int32} (h : kC t c I I') (h' : kC t c I' I'') : kC t c I I'' := fun a z n1 n2 n3 => (h' a z n1 n2 n3).trans (h a z n1 n2 n3)
theorem kC_w {t c : Nat} {I : Nat → Nat → Int32} {d : Nat} {x : Int32} (hd : d = 2 ∨ d = 3 ∨ d = 4) : kC t c I (v_u I (t + d) c x) := fun a z _ _ n3 => if_neg (fun q => n3 ⟨by omega, q.2⟩)
theorem kS_w {t c d : Nat} {I I' : Nat → Nat → Int32} (h : kS t I I') (hd : 2 ≤ d ∧ d ≤ 4) : I' (t + d) c = I (t + d) c := h _ _ (by omega) (by omega)
abbrev rm_X7_takesClause : Room := { frames := 26, cells := 0, slots := 0, locals := 1100 }
set_option maxRecDepth 20000 in
theorem c_X7_takesClause (G : v_G) (l : Launch) {K : Nat × v_TY} {I : Nat → Nat → Int32} {J : Nat → Nat → Int64} {R : Nat → Nat → Option Nat} {t : Nat} {T : List Nat} {i : Nat} {ks : List Nat} (hT : TH K R t) (hP : CP7 I t T i ks) {c : Nat} (hc : c < 10) : v_M G l yX7_takesClause cX7_takesClause 2 (some .boolean) rm_X7_takesClause [.ref t, .int (nI c)] (K, I, J, R) (v_Qi G (fun (x : Int32) (M' : v_MM) => ∃ I', M' = (K, I', J, R) ∧ kC t c I I' ∧ (((p_cl T i).2 = none ∧ x = nI 0 ∧ I' t 0 = nI (p_cl T i).1) ∨ ∃ w n k, (p_cl T i).2 = some (w, n, k) ∧ x = nI 1 ∧ CP7 I' t T (p_cl T i).1 (ks ++ k) ∧ I' (t + 2) c = nI w ∧ I' (t + 3) c = nI n ∧ I' (t + 4) c = nI (ks ++ k).length))) := by
  refine v_of [some (.ref t), some (.int (nI c))] (by decide) (Nat.le_of_ble_eq_true rfl) (Nat.le_of_ble_eq_true rfl) rfl ?_
  have hw3 := p_wd_lt T i
  refine v_aload_n (pc := 0) dX7_takesClause_0 rfl rfl ?_
  refine v_getH (pc := 1) fg_X7_15_7 dX7_takesClause_1 hT.1 hT.2.2.1.2.1 ?_
  refine v_iload_n (pc := 4) dX7_takesClause_4 rfl rfl ?_
  refine v_aload_n (pc := 5) dX7_takesClause_5 rfl rfl ?_
  refine v_ci (pc := 6) (v_rV (c_X7_takenWord G l hT hP) rfl kV_X7_55 (v_rcO hT.1 rfl (by decide)) ⟨Nat.le_of_ble_eq_true rfl, Nat.le_of_ble_eq_true rfl⟩ ⟨Nat.le_of_ble_eq_true rfl, Nat.le_of_ble_eq_true rfl⟩ dX7_takesClause_6 (Nat.le_of_ble_eq_true rfl)) (fun x6 M6 h6 => ?_)
  skip
  obtain ⟨I6, rfl, s6, ⟨e1, rfl, e3⟩ | ⟨a, e1, rfl, e3⟩⟩ := h6
  · have eW := p_cl0 e1
    refine v_iastoreN (pc := 9) dX7_takesClause_9 hT.2.1.2.1 ⟨by omega, by omega⟩ ?_
    refine v_aload_n (pc := 10) dX7_takesClause_10 rfl rfl ?_
    refine v_getH (pc := 11) fg_X7_15_7 dX7_takesClause_11 hT.1 hT.2.2.1.2.1 ?_
    refine v_iload_n (pc := 14) dX7_takesClause_14 rfl rfl ?_
    refine v_ialoadN (pc := 15) dX7_takesClause_15 hT.2.1.2.1 ⟨by omega, by omega⟩ v_u_same ?_
    refine v_if_lt (pc := 16) (tgt := 28) dX7_takesClause_16 (by decide) (fun c16 => ?_) (fun c16 => ?_)
    · refine v_iconst (pc := 28) (v := nI 0) dX7_takesClause_28 (by decide) ?_
      exact v_iret (pc := 29) dX7_takesClause_29 rfl rfl (Nat.le_of_ble_eq_true rfl) (Nat.le_of_ble_eq_true rfl) ⟨_, rfl, kC_tr (kC_s s6) (kC_w (Or.inl rfl)), Or.inl ⟨by rw [eW], rfl, by rw [eW]; exact ((v_u_h (by omega)).trans e3)⟩⟩
    · exact absurd (show (-1 : Int32) < 0 by decide) c16
  · have hPa := CP7_w e3 2 c (nI (p_wd T i)) (by decide)
    refine v_iastoreN (pc := 9) dX7_takesClause_9 hT.2.1.2.1 ⟨by omega, by omega⟩ ?_
    refine v_aload_n (pc := 10) dX7_takesClause_10 rfl rfl ?_
    refine v_getH (pc := 11) fg_X7_15_7 dX7_takesClause_11 hT.1 hT.2.2.1.2.1 ?_
    refine v_iload_n (pc := 14) dX7_takesClause_14 rfl rfl ?_
    refine v_ialoadN (pc := 15) dX7_takesClause_15 hT.2.1.2.1 ⟨by omega, by omega⟩ v_u_same ?_
    refine v_if_ltN (pc := 16) (tgt := 28) (by omega) dX7_takesClause_16 (by decide) ?_
    refine v_aload_n (pc := 19) dX7_takesClause_19 rfl rfl ?_
    refine v_bipush (pc := 20) (v := nI 32) dX7_takesClause_20 (by decide) ?_
    refine v_ci (pc := 22) (v_rV (c_X7_takes G l hT hPa (c := 32) (by decide)) rfl kV_X7_47 (v_rcO hT.1 rfl (by decide)) ⟨Nat.le_of_ble_eq_true rfl, Nat.le_of_ble_eq_true rfl⟩ ⟨Nat.le_of_ble_eq_true rfl, Nat.le_of_ble_eq_true rfl⟩ dX7_takesClause_22 (Nat.le_of_ble_eq_true rfl)) (fun x22 M22 h22 => ?_)
    obtain ⟨rfl, I22, rfl, s22, g22, n22⟩ := h22
    refine v_if_neP (pc := 25) (tgt := 30) dX7_takesClause_25 (by decide) (fun c25 => ?_) (fun c25 => ?_)
    · have hPb := g22 c25
      have e2 := p_cl2 e1 c25
      have hnm := p_num_ok hPb.2.1.2
      refine v_aload_n (pc := 30) dX7_takesClause_30 rfl rfl ?_
      refine v_getH (pc := 31) fg_X7_19_7 dX7_takesClause_31 hT.1 hT.2.2.1.2.2.1 ?_
      refine v_iload_n (pc := 34) dX7_takesClause_34 rfl rfl ?_
      refine v_aload_n (pc := 35) dX7_takesClause_35 rfl rfl ?_
      refine v_ci (pc := 36) (v_rV (c_X7_takenNumber G l hT hPb) rfl kV_X7_59 (v_rcO hT.1 rfl (by decide)) ⟨Nat.le_of_ble_eq_true rfl, Nat.le_of_ble_eq_true rfl⟩ ⟨Nat.le_of_ble_eq_true rfl, Nat.le_of_ble_eq_true rfl⟩ dX7_takesClause_36 (Nat.le_of_ble_eq_true rfl)) (fun x36 M36 h36 => ?_)
      obtain ⟨rfl, I36, rfl, s36, q36⟩ := h36
      rcases e7 : (p_num T ((p_str T (w_s (p_wd T i)) i).1 + 1)).2 with _ | n
      · have eW := e2.trans (p_b_n e7)
        have hpx : p_x (none : Option Nat) = -1 := rfl
        rw [hpx]
        refine v_iastoreN (pc := 39) dX7_takesClause_39 hT.2.1.2.2.1 ⟨by omega, by omega⟩ ?_
        refine v_aload_n (pc := 40) dX7_takesClause_40 rfl rfl ?_
        refine v_getH (pc := 41) fg_X7_19_7 dX7_takesClause_41 hT.1 hT.2.2.1.2.2.1 ?_
        refine v_iload_n (pc := 44) dX7_takesClause_44 rfl rfl ?_
        refine v_ialoadN (pc := 45) dX7_takesClause_45 hT.2.1.2.2.1 ⟨by omega, by omega⟩ v_u_same ?_
        refine v_if_lt (pc := 46) (tgt := 66) dX7_takesClause_46 (by decide) (fun c46 => ?_) (fun c46 => ?_)
        · refine v_iconst (pc := 66) (v := nI 0) dX7_takesClause_66 (by decide) ?_
          exact v_iret (pc := 67) dX7_takesClause_67 rfl rfl (Nat.le_of_ble_eq_true rfl) (Nat.le_of_ble_eq_true rfl) ⟨_, rfl, kC_tr (kC_s s6) (kC_tr (kC_w (Or.inl rfl)) (kC_tr (kC_s s22) (kC_tr (kC_s s36) (kC_w (Or.inr (Or.inl rfl)))))), Or.inl ⟨by rw [eW], rfl, by rw [eW]; exact ((v_u_h (by omega)).trans q36.2.1.1)⟩⟩
        · exact absurd (show (-1 : Int32) < 0 by decide) c46
      · have hn100 := (hnm.2.2 n e7).1
        have e4 := e2.trans (p_b_s e7)
        have hPc := CP7_w q36 3 c (nI n) (by decide)
        have hpx : p_x (some n) = nI n := rfl
        rw [hpx]
        refine v_iastoreN (pc := 39) dX7_takesClause_39 hT.2.1.2.2.1 ⟨by omega, by omega⟩ ?_
        refine v_aload_n (pc := 40) dX7_takesClause_40 rfl rfl ?_
        refine v_getH (pc := 41) fg_X7_19_7 dX7_takesClause_41 hT.1 hT.2.2.1.2.2.1 ?_
        refine v_iload_n (pc := 44) dX7_takesClause_44 rfl rfl ?_
        refine v_ialoadN (pc := 45) dX7_takesClause_45 hT.2.1.2.2.1 ⟨by omega, by omega⟩ v_u_same ?_
        refine v_if_ltN (pc := 46) (tgt := 66) (by omega) dX7_takesClause_46 (by decide) ?_
        refine v_aload_n (pc := 49) dX7_takesClause_49 rfl rfl ?_
        refine v_bipush (pc := 50) (v := nI 32) dX7_takesClause_50 (by decide) ?_
        refine v_ci (pc := 52) (v_rV (c_X7_takes G l hT hPc (c := 32) (by decide)) rfl kV_X7_47 (v_rcO hT.1 rfl (by decide)) ⟨Nat.le_of_ble_eq_true rfl, Nat.le_of_ble_eq_true rfl⟩ ⟨Nat.le_of_ble_eq_true rfl, Nat.le_of_ble_eq_true rfl⟩ dX7_takesClause_52 (Nat.le_of_ble_eq_true rfl)) (fun x52 M52 h52 => ?_)
        obtain ⟨rfl, I52, rfl, s52, g52, n52⟩ := h52
        refine v_if_eqP (pc := 55) (tgt := 66) dX7_takesClause_55 (by decide) (fun c55 => ?_) (fun c55 => ?_)
        · have eW : p_cl T i = ((p_num T ((p_str T (w_s (p_wd T i)) i).1 + 1)).1, none) := by rw [e4, p_ch, if_neg c55]; rfl
          refine v_iconst (pc := 66) (v := nI 0) dX7_takesClause_66 (by decide) ?_
          exact v_iret (pc := 67) dX7_takesClause_67 rfl rfl (Nat.le_of_ble_eq_true rfl) (Nat.le_of_ble_eq_true rfl) ⟨_, rfl, kC_tr (kC_s s6) (kC_tr (kC_w (Or.inl rfl)) (kC_tr (kC_s s22) (kC_tr (kC_s s36) (kC_tr (kC_w (Or.inr (Or.inl rfl))) (kC_s s52))))), Or.inl ⟨by rw [eW], rfl, by rw [eW]; exact (n52 c55).2.1.1⟩⟩
        · have hPd := g52 c55
          have e5 : p_cl T i = p_b (p_E T 4 ((p_num T ((p_str T (w_s (p_wd T i)) i).1 + 1)).1 + 1)) (fun q4 ks => (q4, some (p_wd T i, n, ks))) := by rw [e4, p_ch, if_pos c55]; rfl
          refine v_aload_n (pc := 58) dX7_takesClause_58 rfl rfl ?_
          refine v_iconst (pc := 59) (v := nI 0) dX7_takesClause_59 (by decide) ?_
          refine v_ci (pc := 60) (v_rV (c_X7_takesEither_4 G l hT hPd) rfl kV_X7_62 (v_rcO hT.1 rfl (by decide)) ⟨Nat.le_of_ble_eq_true rfl, Nat.le_of_ble_eq_true rfl⟩ ⟨Nat.le_of_ble_eq_true rfl, Nat.le_of_ble_eq_true rfl⟩ dX7_takesClause_60 (Nat.le_of_ble_eq_true rfl)) (fun x60 M60 h60 => ?_)
          skip
          obtain ⟨I60, rfl, s60, ⟨f1, rfl, f3⟩ | ⟨k, f1, rfl, f3⟩⟩ := h60
          · have eW := e5.trans (p_b_n f1)
            refine v_if_neN (pc := 63) (tgt := 68) (by omega) dX7_takesClause_63 (by decide) (fun c63 => ?_) (fun c63 => ?_)
            · exact absurd rfl c63
            · refine v_iconst (pc := 66) (v := nI 0) dX7_takesClause_66 (by decide) ?_
              exact v_iret (pc := 67) dX7_takesClause_67 rfl rfl (Nat.le_of_ble_eq_true rfl) (Nat.le_of_ble_eq_true rfl) ⟨_, rfl, kC_tr (kC_s s6) (kC_tr (kC_w (Or.inl rfl)) (kC_tr (kC_s s22) (kC_tr (kC_s s36) (kC_tr (kC_w (Or.inr (Or.inl rfl))) (kC_tr (kC_s s52) (kC_s s60)))))), Or.inl ⟨by rw [eW], rfl, by rw [eW]; exact f3⟩⟩
          · have eW := e5.trans (p_b_s f1)
            refine v_if_neN (pc := 63) (tgt := 68) (by omega) dX7_takesClause_63 (by decide) (fun c63 => ?_) (fun c63 => ?_)
            · refine v_aload_n (pc := 68) dX7_takesClause_68 rfl rfl ?_
              refine v_getH (pc := 69) fg_X7_22_7 dX7_takesClause_69 hT.1 hT.2.2.1.2.2.2.1 ?_
              refine v_iload_n (pc := 72) dX7_takesClause_72 rfl rfl ?_
              refine v_aload_n (pc := 73) dX7_takesClause_73 rfl rfl ?_
              refine v_getV (pc := 74) fg_X7_44_7 dX7_takesClause_74 hT.1 f3.2.2.1.1 ?_
              refine v_iastoreN (pc := 77) dX7_takesClause_77 hT.2.1.2.2.2.1 ⟨by omega, by omega⟩ ?_
              refine v_iconst (pc := 78) (v := nI 1) dX7_takesClause_78 (by decide) ?_
              exact v_iret (pc := 79) dX7_takesClause_79 rfl rfl (Nat.le_of_ble_eq_true rfl) (Nat.le_of_ble_eq_true rfl) ⟨_, rfl, kC_tr (kC_s s6) (kC_tr (kC_w (Or.inl rfl)) (kC_tr (kC_s s22) (kC_tr (kC_s s36) (kC_tr (kC_w (Or.inr (Or.inl rfl))) (kC_tr (kC_s s52) (kC_tr (kC_s s60) (kC_w (Or.inr (Or.inr rfl))))))))), Or.inr ⟨p_wd T i, n, k, by rw [eW], rfl, by rw [eW]; exact CP7_w f3 4 c _ (by decide), (v_u_h (by omega)).trans ((kS_w s60 (by decide)).trans ((kS_w s52 (by decide)).trans ((v_u_h (by omega)).trans ((kS_w s36 (by decide)).trans ((kS_w s22 (by decide)).trans v_u_same))))), (v_u_h (by omega)).trans ((kS_w s60 (by decide)).trans ((kS_w s52 (by decide)).trans v_u_same)), v_u_same⟩⟩
            · exact absurd c63 (by decide)
    · have eW := p_cl1 e1 c25
      refine v_iconst (pc := 28) (v := nI 0) dX7_takesClause_28 (by decide) ?_
      exact v_iret (pc := 29) dX7_takesClause_29 rfl rfl (Nat.le_of_ble_eq_true rfl) (Nat.le_of_ble_eq_true rfl) ⟨_, rfl, kC_tr (kC_s s6) (kC_tr (kC_w (Or.inl rfl)) (kC_s s22)), Or.inl ⟨by rw [eW], rfl, by rw [eW]; exact (n22 c25).2.1.1⟩⟩
