/-! THE CLASS reads the town's text: leaves -/
def CP7 (I : Nat → Nat → Int32) (t : Nat) (T : List Nat) (i : Nat) (ks : List Nat) : Prop := (I t 2 = nI T.length ∧ T.length ≤ 100 ∧ ∀ (j c : Nat), T[j]? = some c → I (t + 1) j = nI c ∧ c < 128) ∧ (I t 0 = nI i ∧ i ≤ T.length) ∧ (I t 8 = nI ks.length ∧ ks.length ≤ i) ∧ ∀ (j k : Nat), ks[j]? = some k → I (t + 5) j = c_tok k
def kS (t : Nat) (I I' : Nat → Nat → Int32) : Prop := ∀ a z, ¬ (a = t ∧ (z = 0 ∨ z = 8)) → a ≠ t + 5 → I' a z = I a z
theorem kS_rf {t : Nat} {I : Nat → Nat → Int32} : kS t I I := fun _ _ _ _ => rfl
theorem kS_tr {t : Nat} {I I' I'' : Nat → Nat → Int32} (h : kS t I I') (h' : kS t I' I'') : kS t I I'' := fun a z n1 n2 => (h' a z n1 n2).trans (h a z n1 n2)
theorem CP7_t {I : Nat → Nat → Int32} {t : Nat} {T : List Nat} {i : Nat} {ks : List Nat} (h : CP7 I t T i ks) (hi : i < T.length) : I (t + 1) i = nI (tx T i) ∧ tx T i < 128 := by
  have e : T[i]? = some T[i] := List.getElem?_eq_getElem hi
  have e2 := h.1.2.2 i _ e
  rw [tx_s e]; exact e2
theorem CP7_p {I : Nat → Nat → Int32} {t : Nat} {T : List Nat} {i : Nat} {ks : List Nat} (h : CP7 I t T i ks) (hi : i < T.length) : CP7 (v_u I t 0 (nI (i + 1))) t T (i + 1) ks :=
  ⟨⟨(v_u_k (by decide)).trans h.1.1, h.1.2.1, fun j c e => by rw [v_u_h (by omega)]; exact h.1.2.2 j c e⟩, ⟨v_u_same, hi⟩, ⟨(v_u_k (by decide)).trans h.2.2.1.1, by have := h.2.2.1.2; omega⟩, fun j k e => by rw [v_u_h (by omega)]; exact h.2.2.2 j k e⟩
theorem kS_p {I : Nat → Nat → Int32} {t : Nat} {x : Int32} : kS t I (v_u I t 0 x) := fun a z n1 _ => if_neg (fun q => n1 ⟨q.1, Or.inl q.2⟩)
theorem CP7_k {I : Nat → Nat → Int32} {t : Nat} {T : List Nat} {i k : Nat} {ks : List Nat} (h : CP7 I t T i ks) (hl : ks.length < i) : CP7 (v_u (v_u I (t + 5) ks.length (c_tok k)) t 8 (nI (ks.length + 1))) t T i (ks ++ [k]) := by
  refine ⟨⟨(v_u_k (by decide)).trans ((v_u_h (by omega)).trans h.1.1), h.1.2.1, fun j c e => by rw [v_u_h (by omega), v_u_h (by omega)]; exact h.1.2.2 j c e⟩, ⟨(v_u_k (by decide)).trans ((v_u_h (by omega)).trans h.2.1.1), h.2.1.2⟩, ⟨by rw [v_u_same, List.length_append]; rfl, by rw [List.length_append]; show ks.length + 1 ≤ i; omega⟩, fun j q e => ?_⟩
  rw [v_u_h (by omega)]
  by_cases c : j < ks.length
  · rw [v_u_k (by omega)]
    rw [List.getElem?_append_left c] at e
    exact h.2.2.2 j q e
  · have e2 : j = ks.length := by
      have := (List.getElem?_eq_some_iff.mp e).1
      rw [List.length_append] at this
      have : j < ks.length + 1 := this
      omega
    subst e2
    rw [v_u_same]
    rw [List.getElem?_append_right (Nat.le_refl _), Nat.sub_self] at e
    cases e
    rfl
theorem kS_k {I : Nat → Nat → Int32} {t j : Nat} {x y : Int32} : kS t I (v_u (v_u I (t + 5) j x) t 8 y) := fun a z n1 n2 => by rw [v_u_g (fun q => n1 ⟨q.1, Or.inr q.2⟩), v_u_h n2]
def t_l (u : Nat) : List Nat := (v_tby.getD u []).map (fun x => x.toInt.toNat)
theorem t_bl : ∀ u, u < 7 → ∀ j, j < 10 → j < t_n u → t_b u j = nI ((t_l u).getD j 0) ∧ (t_l u).getD j 0 < 128 := by decide +kernel
theorem t_ld : ∀ u, u < 7 → ∀ j, j < 10 → j < t_n u → (t_l u).drop j = (t_l u).getD j 0 :: (t_l u).drop (j + 1) := by decide +kernel
theorem t_l0 : ∀ u, u < 7 → (t_l u).drop (t_n u) = [] := by decide +kernel
theorem t_ix200 : ∀ u, u < 7 → t_ix u 200 = -1 := by decide +kernel
theorem c_i8 : ∀ c, c < 128 → ((nI c).toUInt32 % 65536).toInt32 = nI c := by decide +kernel
theorem t_ix4 : ∀ c, c < 201 → t_ix 4 c = if dg c = true then nI (c - 48) else -1 := by decide +kernel
theorem t_ix3 : ∀ c, c < 201 → t_ix 3 c = if c = 119 then 0 else if c = 109 then 1 else if c = 98 then 2 else -1 := by decide +kernel
theorem t_ix5 : ∀ c, c < 201 → t_ix 5 c = match p_le c with | some f => nI f | none => -1 := by decide +kernel
theorem t_ix6 : ∀ c, c < 201 → t_ix 6 c = if 60 ≤ c ∧ c ≤ 62 then nI (c - 60) else -1 := by decide +kernel
theorem CP7_tx {I : Nat → Nat → Int32} {t : Nat} {T : List Nat} {i : Nat} {ks : List Nat} (h : CP7 I t T i ks) (q : Nat) : tx T q < 201 := by
  by_cases c : q < T.length
  · have e : T[q]? = some T[q] := List.getElem?_eq_getElem c
    rw [tx_s e]; have := (h.1.2.2 q _ e).2; omega
  · rw [tx_ge (by omega)]; decide
theorem p_num_dg {T : List Nat} {i : Nat} (h : dg (tx T i) = true) : 48 ≤ tx T i ∧ tx T i ≤ 57 := of_decide_eq_true h
abbrev rm_X7_takes : Room := { frames := 0, cells := 0, slots := 0, locals := 0 }
set_option maxRecDepth 20000 in
theorem c_X7_takes (G : v_G) (l : Launch) {K : Nat × v_TY} {I : Nat → Nat → Int32} {J : Nat → Nat → Int64} {R : Nat → Nat → Option Nat} {t : Nat} {T : List Nat} {i : Nat} {ks : List Nat} (hT : TH K R t) (hP : CP7 I t T i ks) {c : Nat} (hc : c < 128) : v_M G l yX7_takes cX7_takes 2 (some .boolean) rm_X7_takes [.ref t, .int (nI c)] (K, I, J, R) (v_Qi G (fun (x : Int32) (M' : v_MM) => x = v_p (tx T i = c) ∧ ∃ I', M' = (K, I', J, R) ∧ kS t I I' ∧ (tx T i = c → CP7 I' t T (i + 1) ks) ∧ (tx T i ≠ c → CP7 I' t T i ks))) := by
  refine v_of [some (.ref t), some (.int (nI c))] (by decide) (Nat.le_of_ble_eq_true rfl) (Nat.le_of_ble_eq_true rfl) rfl ?_
  have h100 := hP.1.2.1
  have hiT := hP.2.1.2
  have hks := hP.2.2.1.2
  refine v_aload_n (pc := 0) dX7_takes_0 rfl rfl ?_
  refine v_getV (pc := 1) fg_X7_38_7 dX7_takes_1 hT.1 hP.2.1.1 ?_
  refine v_aload_n (pc := 4) dX7_takes_4 rfl rfl ?_
  refine v_getV (pc := 5) fg_X7_34_7 dX7_takes_5 hT.1 hP.1.1 ?_
  refine v_icmp_geN (pc := 8) (tgt := 24) ⟨by omega, by omega⟩ dX7_takes_8 (by decide) (fun c8 => ?_) (fun c8 => ?_)
  · have e2 : tx T i = 200 := tx_ge (by omega)
    refine v_iconst (pc := 24) (v := nI 0) dX7_takes_24 (by decide) ?_
    exact v_iret (pc := 25) dX7_takes_25 rfl rfl (Nat.le_of_ble_eq_true rfl) (Nat.le_of_ble_eq_true rfl) (by first | exact ⟨v_pz (by omega), I, rfl, kS_rf, fun q => absurd q (by omega), fun _ => hP⟩ | exact ⟨v_po (by omega), _, rfl, kS_p, fun _ => CP7_p hP (by omega), fun q => absurd (show tx T i = c by omega) q⟩)
  · obtain ⟨e1, e2⟩ := CP7_t hP (by omega)
    refine v_aload_n (pc := 11) dX7_takes_11 rfl rfl ?_
    refine v_getH (pc := 12) fg_X7_9_7 dX7_takes_12 hT.1 hT.2.2.1.1 ?_
    refine v_aload_n (pc := 15) dX7_takes_15 rfl rfl ?_
    refine v_getV (pc := 16) fg_X7_38_7 dX7_takes_16 hT.1 hP.2.1.1 ?_
    refine v_baloadN (pc := 19) dX7_takes_19 hT.2.1.1 ⟨by omega, by omega⟩ e1 ?_
    refine v_iload_n (pc := 20) dX7_takes_20 rfl rfl ?_
    refine v_icmp_eqN (pc := 21) (tgt := 26) ⟨by omega, by omega⟩ dX7_takes_21 (by decide) (fun c21 => ?_) (fun c21 => ?_)
    · refine v_aload_n (pc := 26) dX7_takes_26 rfl rfl ?_
      refine v_dup (pc := 27) dX7_takes_27 rfl ?_
      refine v_getV (pc := 28) fg_X7_38_7 dX7_takes_28 hT.1 hP.2.1.1 ?_
      refine v_iconst (pc := 31) (v := nI 1) dX7_takes_31 (by decide) ?_
      refine v_iaddN (pc := 32) dX7_takes_32 ?_
      refine v_putI (pc := 33) pg_X7_38_7 (fun h => by cases h) dX7_takes_33 hT.1 rfl rfl ?_
      refine v_iconst (pc := 36) (v := nI 1) dX7_takes_36 (by decide) ?_
      exact v_iret (pc := 37) dX7_takes_37 rfl rfl (Nat.le_of_ble_eq_true rfl) (Nat.le_of_ble_eq_true rfl) (by first | exact ⟨v_pz (by omega), I, rfl, kS_rf, fun q => absurd q (by omega), fun _ => hP⟩ | exact ⟨v_po (by omega), _, rfl, kS_p, fun _ => CP7_p hP (by omega), fun q => absurd (show tx T i = c by omega) q⟩)
    · refine v_iconst (pc := 24) (v := nI 0) dX7_takes_24 (by decide) ?_
      exact v_iret (pc := 25) dX7_takes_25 rfl rfl (Nat.le_of_ble_eq_true rfl) (Nat.le_of_ble_eq_true rfl) (by first | exact ⟨v_pz (by omega), I, rfl, kS_rf, fun q => absurd q (by omega), fun _ => hP⟩ | exact ⟨v_po (by omega), _, rfl, kS_p, fun _ => CP7_p hP (by omega), fun q => absurd (show tx T i = c by omega) q⟩)
abbrev rm_X7_keep : Room := { frames := 0, cells := 0, slots := 0, locals := 0 }
set_option maxRecDepth 20000 in
theorem c_X7_keep (G : v_G) (l : Launch) {K : Nat × v_TY} {I : Nat → Nat → Int32} {J : Nat → Nat → Int64} {R : Nat → Nat → Option Nat} {t : Nat} {T : List Nat} {i : Nat} {ks : List Nat} (hT : TH K R t) (hP : CP7 I t T i ks) {k : Nat} (hl : ks.length < i) : v_M G l yX7_keep cX7_keep 2 none rm_X7_keep [.ref t, .int (c_tok k)] (K, I, J, R) (v_Qv G (fun (M' : v_MM) => ∃ I', M' = (K, I', J, R) ∧ kS t I I' ∧ CP7 I' t T i (ks ++ [k]))) := by
  refine v_of [some (.ref t), some (.int (c_tok k))] (by decide) (Nat.le_of_ble_eq_true rfl) (Nat.le_of_ble_eq_true rfl) rfl ?_
  have h100 := hP.1.2.1
  have hiT := hP.2.1.2
  have hks := hP.2.2.1.2
  refine v_aload_n (pc := 0) dX7_keep_0 rfl rfl ?_
  refine v_getV (pc := 1) fg_X7_44_7 dX7_keep_1 hT.1 hP.2.2.1.1 ?_
  refine v_bipush (pc := 4) (v := nI 100) dX7_keep_4 (by decide) ?_
  refine v_icmp_geN (pc := 6) (tgt := 29) ⟨by omega, by omega⟩ dX7_keep_6 (by decide) (fun c6 => ?_) (fun c6 => ?_)
  · exact absurd c6 (by omega)
  · refine v_aload_n (pc := 9) dX7_keep_9 rfl rfl ?_
    refine v_getH (pc := 10) fg_X7_25_7 dX7_keep_10 hT.1 hT.2.2.1.2.2.2.2 ?_
    refine v_aload_n (pc := 13) dX7_keep_13 rfl rfl ?_
    refine v_getV (pc := 14) fg_X7_44_7 dX7_keep_14 hT.1 hP.2.2.1.1 ?_
    refine v_iload_n (pc := 17) dX7_keep_17 rfl rfl ?_
    refine v_iastoreN (pc := 18) dX7_keep_18 hT.2.1.2.2.2.2 ⟨by omega, by omega⟩ ?_
    refine v_aload_n (pc := 19) dX7_keep_19 rfl rfl ?_
    refine v_dup (pc := 20) dX7_keep_20 rfl ?_
    refine v_getV (pc := 21) fg_X7_44_7 dX7_keep_21 hT.1 ((v_u_h (by omega)).trans hP.2.2.1.1) ?_
    refine v_iconst (pc := 24) (v := nI 1) dX7_keep_24 (by decide) ?_
    refine v_iaddN (pc := 25) dX7_keep_25 ?_
    refine v_putI (pc := 26) pg_X7_44_7 (fun h => by cases h) dX7_keep_26 hT.1 rfl rfl ?_
    exact v_vret (pc := 29) dX7_keep_29 rfl (Nat.le_of_ble_eq_true rfl) (Nat.le_of_ble_eq_true rfl) ⟨_, rfl, kS_k, CP7_k hP hl⟩
abbrev rm_X7_takenOneOf : Room := { frames := 4, cells := 0, slots := 0, locals := 91 }
set_option maxRecDepth 20000 in
theorem c_X7_takenOneOf (G : v_G) (l : Launch) {K : Nat × v_TY} {I : Nat → Nat → Int32} {J : Nat → Nat → Int64} {R : Nat → Nat → Option Nat} {t : Nat} {T : List Nat} {i : Nat} {ks : List Nat} (hT : TH K R t) (hP : CP7 I t T i ks) {u : Nat} (hi : u < 7) : v_M G l yX7_takenOneOf cX7_takenOneOf 3 (some .int) rm_X7_takenOneOf [.ref t, .ref (1000000 + (10 + u))] (K, I, J, R) (v_Qi G (fun (x : Int32) (M' : v_MM) => x = t_ix u (tx T i) ∧ ∃ I', M' = (K, I', J, R) ∧ kS t I I' ∧ (x < 0 → CP7 I' t T i ks) ∧ (¬ x < 0 → CP7 I' t T (i + 1) ks))) := by
  refine v_of [some (.ref t), some (.ref (1000000 + (10 + u))), none] (by decide) (Nat.le_of_ble_eq_true rfl) (Nat.le_of_ble_eq_true rfl) rfl ?_
  have h100 := hP.1.2.1
  have hiT := hP.2.1.2
  have hks := hP.2.2.1.2
  refine v_aload_n (pc := 0) dX7_takenOneOf_0 rfl rfl ?_
  refine v_getV (pc := 1) fg_X7_38_7 dX7_takenOneOf_1 hT.1 hP.2.1.1 ?_
  refine v_aload_n (pc := 4) dX7_takenOneOf_4 rfl rfl ?_
  refine v_getV (pc := 5) fg_X7_34_7 dX7_takenOneOf_5 hT.1 hP.1.1 ?_
  refine v_icmp_geN (pc := 8) (tgt := 28) ⟨by omega, by omega⟩ dX7_takenOneOf_8 (by decide) (fun c8 => ?_) (fun c8 => ?_)
  · have e2 : tx T i = 200 := tx_ge (by omega)
    have e3 : t_ix u (tx T i) = -1 := by rw [e2]; exact t_ix200 u hi
    refine v_iconst (pc := 28) (v := -1) dX7_takenOneOf_28 (by decide) ?_
    refine v_istore_n (pc := 29) dX7_takenOneOf_29 rfl (by decide) rfl ?_
    refine v_iload_n (pc := 30) dX7_takenOneOf_30 rfl rfl ?_
    refine v_if_lt (pc := 31) (tgt := 44) dX7_takenOneOf_31 (by decide) (fun c31 => ?_) (fun c31 => ?_)
    · refine v_iload_n (pc := 44) dX7_takenOneOf_44 rfl rfl ?_
      exact v_iret (pc := 45) dX7_takenOneOf_45 rfl rfl (Nat.le_of_ble_eq_true rfl) (Nat.le_of_ble_eq_true rfl) (by first | exact ⟨e3.symm, I, rfl, kS_rf, fun _ => hP, fun q => absurd (show (-1 : Int32) < 0 by decide) q⟩ | exact ⟨rfl, I, rfl, kS_rf, fun _ => hP, fun q => absurd c31 q⟩ | exact ⟨e3.symm, _, rfl, kS_p, fun q => absurd q c31, fun _ => absurd (show (-1 : Int32) < 0 by decide) c31⟩ | exact ⟨rfl, _, rfl, kS_p, fun q => absurd q c31, fun _ => CP7_p hP (by omega)⟩)
    · refine v_aload_n (pc := 34) dX7_takenOneOf_34 rfl rfl ?_
      refine v_dup (pc := 35) dX7_takenOneOf_35 rfl ?_
      refine v_getV (pc := 36) fg_X7_38_7 dX7_takenOneOf_36 hT.1 hP.2.1.1 ?_
      refine v_iconst (pc := 39) (v := nI 1) dX7_takenOneOf_39 (by decide) ?_
      refine v_iaddN (pc := 40) dX7_takenOneOf_40 ?_
      refine v_putI (pc := 41) pg_X7_38_7 (fun h => by cases h) dX7_takenOneOf_41 hT.1 rfl rfl ?_
      refine v_iload_n (pc := 44) dX7_takenOneOf_44 rfl rfl ?_
      exact v_iret (pc := 45) dX7_takenOneOf_45 rfl rfl (Nat.le_of_ble_eq_true rfl) (Nat.le_of_ble_eq_true rfl) (by first | exact ⟨e3.symm, I, rfl, kS_rf, fun _ => hP, fun q => absurd (show (-1 : Int32) < 0 by decide) q⟩ | exact ⟨rfl, I, rfl, kS_rf, fun _ => hP, fun q => absurd c31 q⟩ | exact ⟨e3.symm, _, rfl, kS_p, fun q => absurd q c31, fun _ => absurd (show (-1 : Int32) < 0 by decide) c31⟩ | exact ⟨rfl, _, rfl, kS_p, fun q => absurd q c31, fun _ => CP7_p hP (by omega)⟩)
  · obtain ⟨e1, e2⟩ := CP7_t hP (by omega)
    refine v_aload_n (pc := 11) dX7_takenOneOf_11 rfl rfl ?_
    refine v_aload_n (pc := 12) dX7_takenOneOf_12 rfl rfl ?_
    refine v_getH (pc := 13) fg_X7_9_7 dX7_takenOneOf_13 hT.1 hT.2.2.1.1 ?_
    refine v_aload_n (pc := 16) dX7_takenOneOf_16 rfl rfl ?_
    refine v_getV (pc := 17) fg_X7_38_7 dX7_takenOneOf_17 hT.1 hP.2.1.1 ?_
    refine v_baloadN (pc := 20) dX7_takenOneOf_20 hT.2.1.1 ⟨by omega, by omega⟩ e1 ?_
    refine v_i2c (pc := 21) dX7_takenOneOf_21 ?_
    refine v_top (c_i8 _ e2) ?_
    refine v_ci (pc := 22) (v_rV (c_J0_indexOf_0f7a4 G l hi e2) rfl kV_X7_105 (v_rcT hi) ⟨Nat.le_of_ble_eq_true rfl, Nat.le_of_ble_eq_true rfl⟩ ⟨Nat.le_of_ble_eq_true rfl, Nat.le_of_ble_eq_true rfl⟩ dX7_takenOneOf_22 (Nat.le_of_ble_eq_true rfl)) (fun x22 M22 h22 => ?_)
    obtain ⟨rfl, rfl⟩ := h22
    refine v_goto (pc := 25) (tgt := 29) dX7_takenOneOf_25 (by decide) ?_
    refine v_istore_n (pc := 29) dX7_takenOneOf_29 rfl (by decide) rfl ?_
    refine v_iload_n (pc := 30) dX7_takenOneOf_30 rfl rfl ?_
    refine v_if_lt (pc := 31) (tgt := 44) dX7_takenOneOf_31 (by decide) (fun c31 => ?_) (fun c31 => ?_)
    · refine v_iload_n (pc := 44) dX7_takenOneOf_44 rfl rfl ?_
      exact v_iret (pc := 45) dX7_takenOneOf_45 rfl rfl (Nat.le_of_ble_eq_true rfl) (Nat.le_of_ble_eq_true rfl) (by first | exact ⟨e3.symm, I, rfl, kS_rf, fun _ => hP, fun q => absurd (show (-1 : Int32) < 0 by decide) q⟩ | exact ⟨rfl, I, rfl, kS_rf, fun _ => hP, fun q => absurd c31 q⟩ | exact ⟨e3.symm, _, rfl, kS_p, fun q => absurd q c31, fun _ => absurd (show (-1 : Int32) < 0 by decide) c31⟩ | exact ⟨rfl, _, rfl, kS_p, fun q => absurd q c31, fun _ => CP7_p hP (by omega)⟩)
    · refine v_aload_n (pc := 34) dX7_takenOneOf_34 rfl rfl ?_
      refine v_dup (pc := 35) dX7_takenOneOf_35 rfl ?_
      refine v_getV (pc := 36) fg_X7_38_7 dX7_takenOneOf_36 hT.1 hP.2.1.1 ?_
      refine v_iconst (pc := 39) (v := nI 1) dX7_takenOneOf_39 (by decide) ?_
      refine v_iaddN (pc := 40) dX7_takenOneOf_40 ?_
      refine v_putI (pc := 41) pg_X7_38_7 (fun h => by cases h) dX7_takenOneOf_41 hT.1 rfl rfl ?_
      refine v_iload_n (pc := 44) dX7_takenOneOf_44 rfl rfl ?_
      exact v_iret (pc := 45) dX7_takenOneOf_45 rfl rfl (Nat.le_of_ble_eq_true rfl) (Nat.le_of_ble_eq_true rfl) (by first | exact ⟨e3.symm, I, rfl, kS_rf, fun _ => hP, fun q => absurd (show (-1 : Int32) < 0 by decide) q⟩ | exact ⟨rfl, I, rfl, kS_rf, fun _ => hP, fun q => absurd c31 q⟩ | exact ⟨e3.symm, _, rfl, kS_p, fun q => absurd q c31, fun _ => absurd (show (-1 : Int32) < 0 by decide) c31⟩ | exact ⟨rfl, _, rfl, kS_p, fun q => absurd q c31, fun _ => CP7_p hP (by omega)⟩)
