/-! THE CLASS reads: all clauses -/
def fl7 (p : CLS) : List Nat := p.flatMap (fun q => q.2.2)
theorem fl7_a (a : CLS) (x : Nat × Nat × List Nat) : fl7 (a ++ [x]) = fl7 a ++ x.2.2 := by simp [fl7]
def SG (I : Nat → Nat → Int32) (t : Nat) (acc : CLS) : Prop := ∀ (c : Nat) (q : Nat × Nat × List Nat), acc[c]? = some q → I (t + 2) c = nI q.1 ∧ I (t + 3) c = nI q.2.1 ∧ I (t + 4) c = nI (fl7 (acc.take (c + 1))).length
def kU (t : Nat) (I I' : Nat → Nat → Int32) : Prop := ∀ a z, (a < t ∨ t + 5 < a) → I' a z = I a z
theorem kU_tr {t : Nat} {I I' I'' : Nat → Nat → Int32} (h : kU t I I') (h' : kU t I' I'') : kU t I I'' := fun a z n => (h' a z n).trans (h a z n)
theorem kU_S {t : Nat} {I I' : Nat → Nat → Int32} (h : kS t I I') : kU t I I' := fun a z n => h a z (by omega) (by omega)
theorem kU_C {t c : Nat} {I I' : Nat → Nat → Int32} (h : kC t c I I') : kU t I I' := fun a z n => h a z (by omega) (by omega) (by omega)
theorem SG_S {t : Nat} {I I' : Nat → Nat → Int32} {acc : CLS} (h : SG I t acc) (s : kS t I I') : SG I' t acc := fun c q e => by
  obtain ⟨a, b, d⟩ := h c q e
  exact ⟨(kS_w s (by decide)).trans a, (kS_w s (by decide)).trans b, (kS_w s (by decide)).trans d⟩
theorem SG_s {t c : Nat} {I I' : Nat → Nat → Int32} {acc : CLS} {w n : Nat} {k : List Nat} {x : Int32} (h : SG I t acc) (hl : acc.length = c) (s : kC t c I I') (g1 : I' (t + 2) c = nI w) (g2 : I' (t + 3) c = nI n) (g3 : I' (t + 4) c = nI (fl7 acc ++ k).length) : SG (v_u I' t 3 x) t (acc ++ [(w, n, k)]) := fun c' q e => by
  rw [v_u_h (by omega), v_u_h (by omega), v_u_h (by omega)]
  by_cases hc : c' < acc.length
  · rw [List.getElem?_append_left hc] at e
    obtain ⟨a, b, d⟩ := h c' q e
    rw [List.take_append_of_le_length (by omega)]
    exact ⟨(s _ _ (by omega) (by omega) (by omega)).trans a, (s _ _ (by omega) (by omega) (by omega)).trans b, (s _ _ (by omega) (by omega) (by omega)).trans d⟩
  · have e2 : c' = acc.length := by
      have := (List.getElem?_eq_some_iff.mp e).1
      rw [List.length_append] at this
      have : c' < acc.length + 1 := this
      omega
    subst e2
    rw [List.getElem?_append_right (Nat.le_refl _), Nat.sub_self] at e
    cases e
    rw [List.take_of_length_le (by rw [List.length_append]; exact Nat.le_refl _), fl7_a, hl]
    exact ⟨g1, g2, g3⟩
theorem CP7_3 {I : Nat → Nat → Int32} {t : Nat} {T : List Nat} {i : Nat} {ks : List Nat} (h : CP7 I t T i ks) (x : Int32) : CP7 (v_u I t 3 x) t T i ks :=
  ⟨⟨(v_u_k (by decide)).trans h.1.1, h.1.2.1, fun j c e => by rw [v_u_h (by omega)]; exact h.1.2.2 j c e⟩, ⟨(v_u_k (by decide)).trans h.2.1.1, h.2.1.2⟩, ⟨(v_u_k (by decide)).trans h.2.2.1.1, h.2.2.1.2⟩, fun j k e => by rw [v_u_h (by omega)]; exact h.2.2.2 j k e⟩
theorem TC_of {I : Nat → Nat → Int32} {t : Nat} {T : List Nat} {i : Nat} {p : CLS} (h : CP7 I t T i (fl7 p)) (hs : SG I t p) (h3 : I t 3 = nI p.length) (ho : w_okp p) : TC I t p := by
  refine ⟨ho, h3, fun c q e => ?_⟩
  obtain ⟨a, b, d⟩ := hs c q e
  have hc := (List.getElem?_eq_some_iff.mp e).1
  have hp : p = p.take c ++ q :: p.drop (c + 1) := by
    have e2 : p[c] = q := (List.getElem?_eq_some_iff.mp e).2
    rw [← e2, ← List.drop_eq_getElem_cons hc, List.take_append_drop]
  have hf : fl7 p = fl7 (p.take c) ++ (q.2.2 ++ fl7 (p.drop (c + 1))) := by
    conv => lhs; rw [hp]
    simp [fl7]
  have h100 := h.1.2.1
  have hi := h.2.1.2
  have hl := h.2.2.1.2
  have hfl : (fl7 p).length = (fl7 (p.take c)).length + (q.2.2.length + (fl7 (p.drop (c + 1))).length) := by rw [hf, List.length_append, List.length_append]
  refine ⟨a, b, (fl7 (p.take c)).length, fun z => by subst z; rfl, fun c' z => ?_, ?_, by omega, fun j k ej => ?_⟩
  · subst z
    have e2 : p[c']? = some p[c'] := List.getElem?_eq_getElem (by omega)
    exact (hs c' _ e2).2.2
  · rw [d, List.take_succ, e]
    show nI (fl7 (p.take c ++ [q])).length = _
    rw [fl7_a, List.length_append]
  · refine h.2.2.2 _ k ?_
    rw [hf, List.getElem?_append_right (by omega), Nat.add_sub_cancel_left, List.getElem?_append_left (List.getElem?_eq_some_iff.mp ej).1]
    exact ej
def p_nx (T : List Nat) (c q : Nat) (acc : CLS) : Nat × Option CLS := if c = 0 then p_cs T 10 q acc else if c = 10 then (q, none) else if tx T q = 59 then p_cs T (10 - c) (q + 1) acc else (q, none)
theorem p_cs_s {T : List Nat} {c q : Nat} {acc : CLS} (h : c < 10) : p_cs T (10 - c) q acc = p_b (p_cl T q) (fun q2 cl => if q2 = T.length then (q2, some (acc ++ [cl])) else p_nx T (c + 1) q2 (acc ++ [cl])) := by
  obtain ⟨n, hn⟩ : ∃ n, 10 - c = n + 1 := ⟨9 - c, by omega⟩
  rw [hn]
  show p_b (p_cl T q) _ = _
  congr 1
  funext q2 cl
  unfold p_nx
  rw [if_neg (show ¬ c + 1 = 0 by omega), show 10 - (c + 1) = n by omega]
  by_cases h0 : n = 0
  · rw [if_pos h0, if_pos (show c + 1 = 10 by omega)]
  · rw [if_neg h0, if_neg (show ¬ c + 1 = 10 by omega)]
def u_st (I : Nat → Nat → Int32) (t : Nat) (n : Int32) : Nat → Nat → Int32 := v_u (v_u (v_u (v_u (v_cp I 37 (t + 1) 0 0 100) t 2 n) t 0 (nI 0)) t 3 (nI 0)) t 8 (nI 0)
theorem CP7_st {I : Nat → Nat → Int32} {t : Nat} {T : List Nat} (h100 : T.length ≤ 100) (hB : ∀ (j c : Nat), T[j]? = some c → I 37 j = nI c ∧ c < 128) : CP7 (u_st I t (nI T.length)) t T 0 [] := by
  refine ⟨⟨by simp [u_st, v_u], h100, fun j c e => ?_⟩, ⟨by simp [u_st, v_u], Nat.zero_le _⟩, ⟨by simp [u_st, v_u], Nat.le_refl _⟩, fun j k e => by simp at e⟩
  have hj := (List.getElem?_eq_some_iff.mp e).1
  have e1 : u_st I t (nI T.length) (t + 1) j = I 37 j := by
    unfold u_st
    rw [v_u_h (by omega), v_u_h (by omega), v_u_h (by omega), v_u_h (by omega)]
    show (if t + 1 = t + 1 then va_cpy (I 37) (I (t + 1)) 0 0 100 j else _) = _
    rw [if_pos rfl]
    show (if 0 ≤ j ∧ j < 0 + 100 then I 37 (0 + (j - 0)) else _) = _
    rw [if_pos ⟨Nat.zero_le _, by omega⟩, Nat.sub_zero, Nat.zero_add]
  rw [e1]; exact hB j c e
theorem kU_st {I : Nat → Nat → Int32} {t : Nat} {x : Int32} : kU t I (u_st I t x) := fun a z n => by
  unfold u_st
  rw [v_u_h (by omega), v_u_h (by omega), v_u_h (by omega), v_u_h (by omega)]
  exact if_neg (by omega)
theorem fit_b : ∀ c, c < 128 → fits .byte (.int (nI c)) = true := by decide +kernel
abbrev rm_X7_understands : Room := { frames := 28, cells := 0, slots := 0, locals := 1200 }
set_option maxRecDepth 20000 in
theorem c_X7_understands (G : v_G) (l : Launch) {K : Nat × v_TY} {I : Nat → Nat → Int32} {J : Nat → Nat → Int64} {R : Nat → Nat → Option Nat} (hL : Lay K R) {t : Nat} {T : List Nat} (hT : TH K R t) (h100 : T.length ≤ 100) (hB : ∀ (j c : Nat), T[j]? = some c → I 37 j = nI c ∧ c < 128) (hbt : ∀ j, j < 100 → ∃ c, c < 128 ∧ I 37 j = nI c) : v_M G l yX7_understands cX7_understands 4 (some .boolean) rm_X7_understands [.ref t, .ref 37, .int (nI T.length)] (K, I, J, R) (v_Qi G (fun (x : Int32) (M' : v_MM) => ∃ I', M' = (K, I', J, R) ∧ kU t I I' ∧ (((p_cs T 10 0 []).2 = none ∧ x = nI 0 ∧ I' t 0 = nI (p_cs T 10 0 []).1) ∨ ∃ p, (p_cs T 10 0 []).2 = some p ∧ x = nI 1 ∧ TC I' t p ∧ I' t 0 = nI (p_cs T 10 0 []).1))) := by
  refine v_of [some (.ref t), some (.ref 37), some (.int (nI T.length)), none] (by decide) (Nat.le_of_ble_eq_true rfl) (Nat.le_of_ble_eq_true rfl) rfl ?_
  refine v_aload_n (pc := 0) dX7_understands_0 rfl rfl ?_
  refine v_iconst (pc := 1) (v := nI 0) dX7_understands_1 (by decide) ?_
  refine v_aload_n (pc := 2) dX7_understands_2 rfl rfl ?_
  refine v_getH (pc := 3) fg_X7_9_7 dX7_understands_3 hT.1 hT.2.2.1.1 ?_
  refine v_iconst (pc := 6) (v := nI 0) dX7_understands_6 (by decide) ?_
  refine v_bipush (pc := 7) (v := nI 100) dX7_understands_7 (by decide) ?_
  refine v_copyI (kd := 13) (ty := .byte) kA_X7_28 (Or.inl ⟨rfl, rfl⟩) (li_37 hL) hT.2.1.1 (t_nn (by decide)) (t_nn (by decide)) (t_nn (by decide)) (by decide +kernel) (by decide +kernel) (fun j hj => by
    obtain ⟨c, hc, e⟩ := hbt j (by have h9 : (nI 100).toNatClampNeg = 100 := nI_clamp (by decide); omega)
    rw [show (nI 0).toNatClampNeg + j = j by rw [show (nI 0).toNatClampNeg = 0 from nI_clamp (by decide)]; omega, e]; exact fit_b c hc) (Nat.le_of_ble_eq_true rfl) (Nat.le_of_ble_eq_true rfl) dX7_understands_9 ?_
  rw [show (nI 0).toNatClampNeg = 0 from nI_clamp (by decide), show (nI 100).toNatClampNeg = 100 from nI_clamp (by decide)]
  refine v_aload_n (pc := 12) dX7_understands_12 rfl rfl ?_
  refine v_iload_n (pc := 13) dX7_understands_13 rfl rfl ?_
  refine v_putI (pc := 14) pg_X7_34_7 (fun h => by cases h) dX7_understands_14 hT.1 rfl rfl ?_
  refine v_aload_n (pc := 17) dX7_understands_17 rfl rfl ?_
  refine v_iconst (pc := 18) (v := nI 0) dX7_understands_18 (by decide) ?_
  refine v_putI (pc := 19) pg_X7_38_7 (fun h => by cases h) dX7_understands_19 hT.1 rfl rfl ?_
  refine v_aload_n (pc := 22) dX7_understands_22 rfl rfl ?_
  refine v_iconst (pc := 23) (v := nI 0) dX7_understands_23 (by decide) ?_
  refine v_putI (pc := 24) pg_X7_41_7 (fun h => by cases h) dX7_understands_24 hT.1 rfl rfl ?_
  refine v_aload_n (pc := 27) dX7_understands_27 rfl rfl ?_
  refine v_iconst (pc := 28) (v := nI 0) dX7_understands_28 (by decide) ?_
  refine v_putI (pc := 29) pg_X7_44_7 (fun h => by cases h) dX7_understands_29 hT.1 rfl rfl ?_
  refine v_iconst (pc := 32) (v := nI 0) dX7_understands_32 (by decide) ?_
  refine v_istore_n (pc := 33) dX7_understands_33 rfl (by decide) rfl ?_
  have key : ∀ c, c ≤ 10 → ∀ (Ij : Nat → Nat → Int32) (q : Nat) (acc : CLS), CP7 Ij t T q (fl7 acc) → kU t I Ij → SG Ij t acc → acc.length = c → p_nx T c q acc = p_cs T 10 0 [] → v_V G l yX7_understands cX7_understands 4 (some .boolean) rm_X7_understands (v_Qi G (fun (x : Int32) (M' : v_MM) => ∃ I', M' = (K, I', J, R) ∧ kU t I I' ∧ (((p_cs T 10 0 []).2 = none ∧ x = nI 0 ∧ I' t 0 = nI (p_cs T 10 0 []).1) ∨ ∃ p, (p_cs T 10 0 []).2 = some p ∧ x = nI 1 ∧ TC I' t p ∧ I' t 0 = nI (p_cs T 10 0 []).1))) 0 0 34 [some (.ref t), some (.ref 37), some (.int (nI T.length)), some (.int (nI c))] [] (K, Ij, J, R) := by
    refine v_down 10 (fun c hc ih => ?_)
    intro Ij q acc hQ hk hs hlen he
    have k55 : ∀ (Ix : Nat → Nat → Int32) (q2 : Nat), c < 10 → CP7 Ix t T q2 (fl7 acc) → kU t I Ix → SG Ix t acc → p_cs T (10 - c) q2 acc = p_cs T 10 0 [] → v_V G l yX7_understands cX7_understands 4 (some .boolean) rm_X7_understands (v_Qi G (fun (x : Int32) (M' : v_MM) => ∃ I', M' = (K, I', J, R) ∧ kU t I I' ∧ (((p_cs T 10 0 []).2 = none ∧ x = nI 0 ∧ I' t 0 = nI (p_cs T 10 0 []).1) ∨ ∃ p, (p_cs T 10 0 []).2 = some p ∧ x = nI 1 ∧ TC I' t p ∧ I' t 0 = nI (p_cs T 10 0 []).1))) 0 0 55 [some (.ref t), some (.ref 37), some (.int (nI T.length)), some (.int (nI c))] [] (K, Ix, J, R) := by
      intro Ix q2 hc10 hX hkx hsx hex
      refine v_aload_n (pc := 55) dX7_understands_55 rfl rfl ?_
      refine v_iload_n (pc := 56) dX7_understands_56 rfl rfl ?_
      refine v_ci (pc := 57) (v_rV (c_X7_takesClause G l hT hX (c := c) hc10) rfl kV_X7_51 (v_rcO hT.1 rfl (by decide)) ⟨Nat.le_of_ble_eq_true rfl, Nat.le_of_ble_eq_true rfl⟩ ⟨Nat.le_of_ble_eq_true rfl, Nat.le_of_ble_eq_true rfl⟩ dX7_understands_57 (Nat.le_of_ble_eq_true rfl)) (fun x57 M57 h57 => ?_)
      skip
      obtain ⟨I57, rfl, s57, ⟨e1, rfl, e3⟩ | ⟨w, n, k, e1, rfl, e3, g1, g2, g3⟩⟩ := h57
      · have eW : p_cs T 10 0 [] = ((p_cl T q2).1, none) := by rw [← hex, p_cs_s hc10, p_b_n e1]
        refine v_if_neN (pc := 60) (tgt := 65) (by omega) dX7_understands_60 (by decide) (fun c60 => ?_) (fun c60 => ?_)
        · exact absurd rfl c60
        · refine v_iconst (pc := 63) (v := nI 0) dX7_understands_63 (by decide) ?_
          exact v_iret (pc := 64) dX7_understands_64 rfl rfl (Nat.le_of_ble_eq_true rfl) (Nat.le_of_ble_eq_true rfl) ⟨_, rfl, kU_tr hkx (kU_C s57), Or.inl ⟨by rw [eW], rfl, by rw [eW]; exact e3⟩⟩
      · have e5 := hex.symm.trans ((p_cs_s hc10).trans (p_b_s e1))
        have hs9 := SG_s (x := nI (c + 1)) hsx hlen s57 g1 g2 g3
        have hP9 := CP7_3 e3 (nI (c + 1))
        have hq9 := e3.2.1.2
        have hk9 : kU t I (v_u I57 t 3 (nI (c + 1))) := kU_tr (kU_tr hkx (kU_C s57)) (fun a z n => v_u_h (by omega))
        refine v_if_neN (pc := 60) (tgt := 65) (by omega) dX7_understands_60 (by decide) (fun c60 => ?_) (fun c60 => ?_)
        · refine v_aload_n (pc := 65) dX7_understands_65 rfl rfl ?_
          refine v_iload_n (pc := 66) dX7_understands_66 rfl rfl ?_
          refine v_iconst (pc := 67) (v := nI 1) dX7_understands_67 (by decide) ?_
          refine v_iaddN (pc := 68) dX7_understands_68 ?_
          refine v_putI (pc := 69) pg_X7_41_7 (fun h => by cases h) dX7_understands_69 hT.1 rfl rfl ?_
          refine v_aload_n (pc := 72) dX7_understands_72 rfl rfl ?_
          refine v_getV (pc := 73) fg_X7_38_7 dX7_understands_73 hT.1 hP9.2.1.1 ?_
          refine v_aload_n (pc := 76) dX7_understands_76 rfl rfl ?_
          refine v_getV (pc := 77) fg_X7_34_7 dX7_understands_77 hT.1 hP9.1.1 ?_
          refine v_icmp_neN (pc := 80) (tgt := 85) ⟨by omega, by omega⟩ dX7_understands_80 (by decide) (fun c80 => ?_) (fun c80 => ?_)
          · refine v_iincN (pc := 85) (b := 1) dX7_understands_85 rfl (by decide) (by decide) rfl ?_
            refine v_goto (pc := 88) (tgt := 34) dX7_understands_88 (by decide) ?_
            exact ih (c + 1) (by omega) (by omega) _ (p_cl T q2).1 (acc ++ [(w, n, k)]) (by rw [fl7_a]; exact hP9) hk9 hs9 (by rw [List.length_append, hlen]; rfl) (e5.trans (if_neg (by omega))).symm
          · have eW : p_cs T 10 0 [] = ((p_cl T q2).1, some (acc ++ [(w, n, k)])) := e5.trans (if_pos (by omega))
            have hok := (p_cs_ok h100 10 0 [] (Nat.zero_le _) (fun c h => by cases h)).2 _ (by rw [eW])
            refine v_iconst (pc := 83) (v := nI 1) dX7_understands_83 (by decide) ?_
            exact v_iret (pc := 84) dX7_understands_84 rfl rfl (Nat.le_of_ble_eq_true rfl) (Nat.le_of_ble_eq_true rfl) ⟨_, rfl, hk9, Or.inr ⟨acc ++ [(w, n, k)], by rw [eW], rfl, TC_of (T := T) (i := (p_cl T q2).1) (by rw [fl7_a]; exact hP9) hs9 (by rw [v_u_same, List.length_append]; show _ = nI (acc.length + 1); rw [hlen]) ⟨Nat.le_trans hok.1 (by decide), hok.2⟩, by rw [eW]; exact hP9.2.1.1⟩⟩
        · exact absurd c60 (by decide)
    refine v_iload_n (pc := 34) dX7_understands_34 rfl rfl ?_
    refine v_bipush (pc := 35) (v := nI 10) dX7_understands_35 (by decide) ?_
    refine v_icmp_geN (pc := 37) (tgt := 91) ⟨by omega, by omega⟩ dX7_understands_37 (by decide) (fun c37 => ?_) (fun c37 => ?_)
    · have eW : p_cs T 10 0 [] = (q, none) := by rw [← he]; unfold p_nx; rw [if_neg (by omega), if_pos (by omega)]
      have eQ := hQ.2.1.1
      have eK := hk
      refine v_iconst (pc := 91) (v := nI 0) dX7_understands_91 (by decide) ?_
      exact v_iret (pc := 92) dX7_understands_92 rfl rfl (Nat.le_of_ble_eq_true rfl) (Nat.le_of_ble_eq_true rfl) ⟨_, rfl, eK, Or.inl ⟨by rw [eW], rfl, by rw [eW]; exact eQ⟩⟩
    · refine v_iload_n (pc := 40) dX7_understands_40 rfl rfl ?_
      refine v_if_leN (pc := 41) (tgt := 55) (by omega) dX7_understands_41 (by decide) (fun c41 => ?_) (fun c41 => ?_)
      · have c0 : c = 0 := by omega
        have he5 : p_cs T (10 - c) q acc = p_cs T 10 0 [] := by rw [← he]; unfold p_nx; rw [if_pos c0, c0]
        first
          | exact k55 I47 (q + 1) (by omega) (g47 c50) (kU_tr hk (kU_S s47)) (SG_S hs s47) he5
          | exact k55 Ij q (by omega) hQ hk hs he5
      · refine v_aload_n (pc := 44) dX7_understands_44 rfl rfl ?_
        refine v_bipush (pc := 45) (v := nI 59) dX7_understands_45 (by decide) ?_
        refine v_ci (pc := 47) (v_rV (c_X7_takes G l hT hQ (c := 59) (by decide)) rfl kV_X7_47 (v_rcO hT.1 rfl (by decide)) ⟨Nat.le_of_ble_eq_true rfl, Nat.le_of_ble_eq_true rfl⟩ ⟨Nat.le_of_ble_eq_true rfl, Nat.le_of_ble_eq_true rfl⟩ dX7_understands_47 (Nat.le_of_ble_eq_true rfl)) (fun x47 M47 h47 => ?_)
        obtain ⟨rfl, I47, rfl, s47, g47, n47⟩ := h47
        refine v_if_neP (pc := 50) (tgt := 55) dX7_understands_50 (by decide) (fun c50 => ?_) (fun c50 => ?_)
        · have he5 : p_cs T (10 - c) (q + 1) acc = p_cs T 10 0 [] := by rw [← he]; unfold p_nx; rw [if_neg (by omega), if_neg (by omega), if_pos c50]
          first
            | exact k55 I47 (q + 1) (by omega) (g47 c50) (kU_tr hk (kU_S s47)) (SG_S hs s47) he5
            | exact k55 Ij q (by omega) hQ hk hs he5
        · have eW : p_cs T 10 0 [] = (q, none) := by rw [← he]; unfold p_nx; rw [if_neg (by omega), if_neg (by omega), if_neg c50]
          have eQ := (n47 c50).2.1.1
          have eK := kU_tr hk (kU_S s47)
          refine v_iconst (pc := 53) (v := nI 0) dX7_understands_53 (by decide) ?_
          exact v_iret (pc := 54) dX7_understands_54 rfl rfl (Nat.le_of_ble_eq_true rfl) (Nat.le_of_ble_eq_true rfl) ⟨_, rfl, eK, Or.inl ⟨by rw [eW], rfl, by rw [eW]; exact eQ⟩⟩
  exact key 0 (Nat.zero_le _) (u_st I t (nI T.length)) 0 [] (CP7_st h100 hB) kU_st (fun c q e => by simp at e) rfl rfl
