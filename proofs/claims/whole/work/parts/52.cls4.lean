abbrev rm_X7_together : Room := { frames := 2, cells := 0, slots := 0, locals := 52 }
set_option maxRecDepth 20000 in
theorem c_X7_together (G : v_G) (l : Launch) {K : Nat × v_TY} {I : Nat → Nat → Int32} {J : Nat → Nat → Int64} {R : Nat → Nat → Option Nat} {t w : Nat} {p : CLS} (hT : TH K R t) (hC : TC I t p) (hw : w < 3) {a : Nat} {fv : Nat → Nat} (ha : v_is K a 14 6) (hf : ∀ f, f < 6 → I a f = nI (fv f) ∧ fv f < 1000) : v_M G l yX7_together cX7_together 6 (some .int) rm_X7_together [.ref t, .int (nI w), .ref a] (K, I, J, R) (v_Qi G (fun (x : Int32) (M' : v_MM) => x = nI (if w_any w p = true then w_sumc fv w p else 1) ∧ M' = (K, I, J, R))) := by
  refine v_of [some (.ref t), some (.int (nI w)), some (.ref a), none, none, none] (by decide) (Nat.le_of_ble_eq_true rfl) (Nat.le_of_ble_eq_true rfl) rfl ?_
  refine v_iconst (pc := 0) (v := nI 0) dX7_together_0 (by decide) ?_
  refine v_istore_n (pc := 1) dX7_together_1 rfl (by decide) rfl ?_
  refine v_iconst (pc := 2) (v := nI 0) dX7_together_2 (by decide) ?_
  refine v_istore (pc := 3) dX7_together_3 (by decide) rfl ?_
  refine v_iconst (pc := 5) (v := nI 0) dX7_together_5 (by decide) ?_
  refine v_istore (pc := 6) dX7_together_6 (by decide) rfl ?_
  have hok := hC.1
  have hl10 := hok.1
  have key : ∀ j, j ≤ p.length → v_V G l yX7_together cX7_together 6 (some .int) rm_X7_together (v_Qi G (fun (x : Int32) (M' : v_MM) => x = nI (if w_any w p = true then w_sumc fv w p else 1) ∧ M' = (K, I, J, R))) 0 0 8 [some (.ref t), some (.int (nI w)), some (.ref a), some (.int (nI (if w_any w (p.take j) = true then 1 else 0))), some (.int (nI (w_sumc fv w (p.take j)))), some (.int (nI j))] [] (K, I, J, R) := by
    refine v_down p.length (fun j hj ih => ?_)
    refine v_iload (pc := 8) dX7_together_8 rfl ?_
    refine v_aload_n (pc := 10) dX7_together_10 rfl rfl ?_
    refine v_getV (pc := 11) fg_X7_41_7 dX7_together_11 hT.1 hC.2.1 ?_
    refine v_icmp_geN (pc := 14) (tgt := 62) ⟨by omega, by omega⟩ dX7_together_14 (by decide) (fun c14 => ?_) (fun c14 => ?_)
    · have e : j = p.length := by omega
      subst e
      rw [List.take_length]
      refine v_iload_n (pc := 62) dX7_together_62 rfl rfl ?_
      refine v_if_eqN (pc := 63) (tgt := 71) (by split <;> omega) dX7_together_63 (by decide) (fun c63 => ?_) (fun c63 => ?_)
      · refine v_iconst (pc := 71) (v := nI 1) dX7_together_71 (by decide) ?_
        exact v_iret (pc := 72) dX7_together_72 rfl rfl (Nat.le_of_ble_eq_true rfl) (Nat.le_of_ble_eq_true rfl) ⟨by first | (simp_all; done) | (split <;> simp_all), rfl⟩
      · refine v_iload (pc := 66) dX7_together_66 rfl ?_
        refine v_goto (pc := 68) (tgt := 72) dX7_together_68 (by decide) ?_
        exact v_iret (pc := 72) dX7_together_72 rfl rfl (Nat.le_of_ble_eq_true rfl) (Nat.le_of_ble_eq_true rfl) ⟨by first | (simp_all; done) | (split <;> simp_all), rfl⟩
    · obtain ⟨cl, hcl⟩ : ∃ cl, p[j]? = some cl := ⟨_, List.getElem?_eq_getElem (show j < p.length by omega)⟩
      have hq := hC.2.2 j cl hcl
      have hokc := hok.2 cl (List.mem_of_getElem? hcl)
      have hc1 := hokc.1
      have et := w_take hcl
      refine v_aload_n (pc := 17) dX7_together_17 rfl rfl ?_
      refine v_getH (pc := 18) fg_X7_15_7 dX7_together_18 hT.1 hT.2.2.1.2.1 ?_
      refine v_iload (pc := 21) dX7_together_21 rfl ?_
      refine v_ialoadN (pc := 23) dX7_together_23 hT.2.1.2.1 ⟨by omega, by omega⟩ hq.1 ?_
      refine v_iload_n (pc := 24) dX7_together_24 rfl rfl ?_
      refine v_icmp_neN (pc := 25) (tgt := 56) ⟨by omega, by omega⟩ dX7_together_25 (by decide) (fun c25 => ?_) (fun c25 => ?_)
      · refine v_iincN (pc := 56) (b := 1) dX7_together_56 rfl (by decide) (by decide) rfl ?_
        refine v_goto (pc := 59) (tgt := 8) dX7_together_59 (by decide) ?_
        have goon := ih (j + 1) (by omega) (by omega)
        rw [et, w_sumc_app, w_any_app, show w_any w [cl] = decide (cl.1 = w) by simp [w_any], show w_sumc fv w [cl] = (if cl.1 = w then if w_holds fv cl.2.2 = true then cl.2.1 else 0 else 0) + 0 from rfl] at goon
        first
          | (rw [decide_eq_true c25, Bool.or_true, if_pos c25, if_pos c39] at goon; exact goon)
          | (rw [decide_eq_true c25, Bool.or_true, if_pos c25, if_neg c39] at goon; exact goon)
          | (rw [decide_eq_false c25, Bool.or_false, if_neg c25] at goon; exact goon)
      · refine v_iconst (pc := 28) (v := nI 1) dX7_together_28 (by decide) ?_
        refine v_istore_n (pc := 29) dX7_together_29 rfl (by decide) rfl ?_
        refine v_iload (pc := 30) dX7_together_30 rfl ?_
        refine v_aload_n (pc := 32) dX7_together_32 rfl rfl ?_
        refine v_iload (pc := 33) dX7_together_33 rfl ?_
        refine v_aload_n (pc := 35) dX7_together_35 rfl rfl ?_
        refine v_ci (pc := 36) (v_rV (c_X7_holds G l hT ha hf (by omega) hq hokc.2.2.2) rfl kV_X7_109 (v_rcO hT.1 rfl (by decide)) ⟨Nat.le_of_ble_eq_true rfl, Nat.le_of_ble_eq_true rfl⟩ ⟨Nat.le_of_ble_eq_true rfl, Nat.le_of_ble_eq_true rfl⟩ dX7_together_36 (Nat.le_of_ble_eq_true rfl)) (fun x36 M36 h36 => ?_)
        obtain ⟨rfl, rfl⟩ := h36
        refine v_if_eqP (pc := 39) (tgt := 52) dX7_together_39 (by decide) (fun c39 => ?_) (fun c39 => ?_)
        · refine v_iconst (pc := 52) (v := nI 0) dX7_together_52 (by decide) ?_
          refine v_iaddN (pc := 53) dX7_together_53 ?_
          refine v_istore (pc := 54) dX7_together_54 (by decide) rfl ?_
          refine v_iincN (pc := 56) (b := 1) dX7_together_56 rfl (by decide) (by decide) rfl ?_
          refine v_goto (pc := 59) (tgt := 8) dX7_together_59 (by decide) ?_
          have goon := ih (j + 1) (by omega) (by omega)
          rw [et, w_sumc_app, w_any_app, show w_any w [cl] = decide (cl.1 = w) by simp [w_any], show w_sumc fv w [cl] = (if cl.1 = w then if w_holds fv cl.2.2 = true then cl.2.1 else 0 else 0) + 0 from rfl] at goon
          first
            | (rw [decide_eq_true c25, Bool.or_true, if_pos c25, if_pos c39] at goon; exact goon)
            | (rw [decide_eq_true c25, Bool.or_true, if_pos c25, if_neg c39] at goon; exact goon)
            | (rw [decide_eq_false c25, Bool.or_false, if_neg c25] at goon; exact goon)
        · refine v_aload_n (pc := 42) dX7_together_42 rfl rfl ?_
          refine v_getH (pc := 43) fg_X7_19_7 dX7_together_43 hT.1 hT.2.2.1.2.2.1 ?_
          refine v_iload (pc := 46) dX7_together_46 rfl ?_
          refine v_ialoadN (pc := 48) dX7_together_48 hT.2.1.2.2.1 ⟨by omega, by omega⟩ hq.2.1 ?_
          refine v_goto (pc := 49) (tgt := 53) dX7_together_49 (by decide) ?_
          refine v_iaddN (pc := 53) dX7_together_53 ?_
          refine v_istore (pc := 54) dX7_together_54 (by decide) rfl ?_
          refine v_iincN (pc := 56) (b := 1) dX7_together_56 rfl (by decide) (by decide) rfl ?_
          refine v_goto (pc := 59) (tgt := 8) dX7_together_59 (by decide) ?_
          have goon := ih (j + 1) (by omega) (by omega)
          rw [et, w_sumc_app, w_any_app, show w_any w [cl] = decide (cl.1 = w) by simp [w_any], show w_sumc fv w [cl] = (if cl.1 = w then if w_holds fv cl.2.2 = true then cl.2.1 else 0 else 0) + 0 from rfl] at goon
          first
            | (rw [decide_eq_true c25, Bool.or_true, if_pos c25, if_pos c39] at goon; exact goon)
            | (rw [decide_eq_true c25, Bool.or_true, if_pos c25, if_neg c39] at goon; exact goon)
            | (rw [decide_eq_false c25, Bool.or_false, if_neg c25] at goon; exact goon)
  exact key 0 (Nat.zero_le _)
theorem cF_rf {h : Nat} {I : Nat → Nat → Int32} : cF h I I := fun _ _ _ => rfl
theorem cF_tr {h : Nat} {I I' I'' : Nat → Nat → Int32} (e : cF h I I') (e' : cF h I' I'') : cF h I I'' := fun a z n => (e' a z n).trans (e a z n)
theorem cF_u {h k : Nat} {I I' : Nat → Nat → Int32} {x : Int32} (e : cF h I I') : cF h I (v_u I' (h + 9) k x) := fun a z n => (v_u_h n).trans (e a z n)
def PS (K : Nat × v_TY) (I : Nat → Nat → Int32) (a ci i k w : Nat) : Prop := 91 ≤ a ∧ v_is K a ci 0 ∧ I a 0 = nI k ∧ I a 1 = nI i ∧ I a 2 = nI w
def p_ci (k : Nat) : Nat := match k with
  | 0 => 2
  | 1 => 10
  | 2 => 3
  | 3 => 1
  | 4 => 0
  | 5 => 4
  | _ => 6
def CP (K : Nat × v_TY) (I : Nat → Nat → Int32) (R : Nat → Nat → Option Nat) (h : Nat) (b : BS) : Prop := ∀ i, i < b_n b → ∃ a, R (h + 1) i = some a ∧ PS K I a (p_ci (b_k b i)) i (b_k b i) (b_v b i)
/-- a village of the class: base b, here hm, clauses p -/
def CV (K : Nat × v_TY) (I : Nat → Nat → Int32) (R : Nat → Nat → Option Nat) (h : Nat) (b : BS) (hm : Nat) (p : CLS) : Prop := CB0 I h b hm ∧ VB b ∧ HM b hm ∧ CP K I R h b ∧ TN K I R (R h 3) p
theorem CB0_F {h hm : Nat} {I I' : Nat → Nat → Int32} {b : BS} (hC : CB0 I h b hm) (e : cF h I I') : CB0 I' h b hm := ⟨(e _ _ (by omega)).trans hC.1, (e _ _ (by omega)).trans hC.2.1, (e _ _ (by omega)).trans hC.2.2.1, fun i hi => (e _ _ (by omega)).trans (hC.2.2.2.1 i hi), fun j hj => (e _ _ (by omega)).trans (hC.2.2.2.2 j hj)⟩
theorem PS_o {K : Nat × v_TY} {I I' : Nat → Nat → Int32} {a ci i k w : Nat} (h : PS K I a ci i k w) (e : ∀ z, I' a z = I a z) : PS K I' a ci i k w := ⟨h.1, h.2.1, (e _).trans h.2.2.1, (e _).trans h.2.2.2.1, (e _).trans h.2.2.2.2⟩
theorem CP_o {K : Nat × v_TY} {I I' : Nat → Nat → Int32} {R : Nat → Nat → Option Nat} {h : Nat} {b : BS} (hP : CP K I R h b) (e : ∀ a z, 91 ≤ a → I' a z = I a z) : CP K I' R h b := fun i hi => by
  obtain ⟨a, h1, h2⟩ := hP i hi
  exact ⟨a, h1, PS_o h2 (fun z => e a z h2.1)⟩
theorem CV_F {K : Nat × v_TY} {I I' : Nat → Nat → Int32} {R : Nat → Nat → Option Nat} {h hm : Nat} {b : BS} {p : CLS} (hV : CV K I R h b hm p) (hh : v_3 h) (e : cF h I I') : CV K I' R h b hm p := ⟨CB0_F hV.1 e, hV.2.1, hV.2.2.1, CP_o hV.2.2.2.1 (fun a z ha => e a z (by rcases hh with rfl | rfl | rfl <;> omega)), TN_F hV.2.2.2.2 hh e⟩
abbrev rm_X9_asTownSays : Room := { frames := 3, cells := 0, slots := 0, locals := 77 }
set_option maxRecDepth 20000 in
theorem c_X9_asTownSays (G : v_G) (l : Launch) {K : Nat × v_TY} {I : Nat → Nat → Int32} {J : Nat → Nat → Int64} {R : Nat → Nat → Option Nat} (hL : Lay K R) {h : Nat} (hh : v_3 h) {w k : Nat} {b : BS} {hm : Nat} {p : CLS} (hv : CV K I R h b hm p) (hw : w < 3) (hk : k < 15) : v_M G l yX9_asTownSays cX9_asTownSays 3 (some .int) rm_X9_asTownSays [.ref h, .int (nI w), .int (nI k)] (K, I, J, R) (v_Qi G (fun (x : Int32) (M' : v_MM) => x = nI (w_sum (c_vw b hm p) w (w_l k) (w_g k)) ∧ ∃ I', M' = (K, I', J, R) ∧ cF h I I')) := by
  refine v_of [some (.ref h), some (.int (nI w)), some (.int (nI k))] (by decide) (Nat.le_of_ble_eq_true rfl) (Nat.le_of_ble_eq_true rfl) rfl ?_
  have hV := VH_of hL hh
  have hg := w_g_in k hk
  have hC := hv.1
  have hB := hv.2.1
  have hy := hB.2.1
  refine v_aload_n (pc := 0) dX9_asTownSays_0 rfl rfl ?_
  rcases hv.2.2.2.2 with ⟨hr, hp⟩ | ⟨t, hr, hTH, hTC⟩
  · subst hp
    refine v_getR (pc := 1) (r := none) fg_X9_62_9 dX9_asTownSays_1 hV.1 hr ?_
    refine v_ifnonnull0 (pc := 4) dX9_asTownSays_4 ?_
    refine v_iconst (pc := 7) (v := nI 1) dX9_asTownSays_7 (by decide) ?_
    exact v_iret (pc := 8) dX9_asTownSays_8 rfl rfl (Nat.le_of_ble_eq_true rfl) (Nat.le_of_ble_eq_true rfl) ⟨rfl, I, rfl, cF_rf⟩
  · refine v_getH (pc := 1) fg_X9_62_9 dX9_asTownSays_1 hV.1 hr ?_
    refine v_ifnonnull (pc := 4) (tgt := 9) dX9_asTownSays_4 (by decide) ?_
    refine v_aload_n (pc := 9) dX9_asTownSays_9 rfl rfl ?_
    refine v_getH (pc := 10) fg_X9_49_9 dX9_asTownSays_10 hV.1 hV.2.2.2.2.2.2.2.2.2.2 ?_
    refine v_iconst (pc := 13) (v := nI 0) dX9_asTownSays_13 (by decide) ?_
    refine v_gets (pc := 14) (i := 0) (nm := "LESSER") (by decide) (Or.inr gs_X9_95) dX9_asTownSays_14 ?_
    refine v_iload_n (pc := 17) dX9_asTownSays_17 rfl rfl ?_
    refine v_stN0 (pc := 18) dX9_asTownSays_18 (by omega) ?_
    refine v_iastoreN (pc := 19) dX9_asTownSays_19 hV.2.1.2.2.2.2.2.2.2.2 ⟨by omega, by omega⟩ ?_
    refine v_aload_n (pc := 20) dX9_asTownSays_20 rfl rfl ?_
    refine v_getH (pc := 21) fg_X9_49_9 dX9_asTownSays_21 hV.1 hV.2.2.2.2.2.2.2.2.2.2 ?_
    refine v_iconst (pc := 24) (v := nI 1) dX9_asTownSays_24 (by decide) ?_
    refine v_gets (pc := 25) (i := 1) (nm := "GREATER") (by decide) (Or.inr gs_X9_98) dX9_asTownSays_25 ?_
    refine v_iload_n (pc := 28) dX9_asTownSays_28 rfl rfl ?_
    refine v_stN1 (pc := 29) dX9_asTownSays_29 (by omega) ?_
    refine v_iastoreN (pc := 30) dX9_asTownSays_30 hV.2.1.2.2.2.2.2.2.2.2 ⟨by omega, by omega⟩ ?_
    refine v_aload_n (pc := 31) dX9_asTownSays_31 rfl rfl ?_
    refine v_getH (pc := 32) fg_X9_49_9 dX9_asTownSays_32 hV.1 hV.2.2.2.2.2.2.2.2.2.2 ?_
    refine v_iconst (pc := 35) (v := nI 2) dX9_asTownSays_35 (by decide) ?_
    refine v_aload_n (pc := 36) dX9_asTownSays_36 rfl rfl ?_
    refine v_iload_n (pc := 37) dX9_asTownSays_37 rfl rfl ?_
    refine v_ci (pc := 38) (v_rV (c_X9_areFriends G l hL hh (km := b_m b) (fun i hi => ((cF_u (cF_u cF_rf)) _ _ (by omega)).trans (hC.2.2.2.1 i hi)) hk) rfl kV_X9_104 (v_rcO hV.1 rfl (by decide)) ⟨Nat.le_of_ble_eq_true rfl, Nat.le_of_ble_eq_true rfl⟩ ⟨Nat.le_of_ble_eq_true rfl, Nat.le_of_ble_eq_true rfl⟩ dX9_asTownSays_38 (Nat.le_of_ble_eq_true rfl)) (fun x38 M38 h38 => ?_)
    obtain ⟨rfl, rfl⟩ := h38
    refine v_ci (pc := 41) (v_rSN (c_X11_asNumber G l (a := (b_m b (w_l k)).testBit (w_g k))) rfl kSN_X9_119 ⟨Nat.le_of_ble_eq_true rfl, Nat.le_of_ble_eq_true rfl⟩ ⟨Nat.le_of_ble_eq_true rfl, Nat.le_of_ble_eq_true rfl⟩ dX9_asTownSays_41 (Nat.le_of_ble_eq_true rfl)) (fun x41 M41 h41 => ?_)
    obtain ⟨rfl, rfl⟩ := h41
    refine v_iastoreN (pc := 44) dX9_asTownSays_44 hV.2.1.2.2.2.2.2.2.2.2 ⟨by omega, by omega⟩ ?_
    refine v_aload_n (pc := 45) dX9_asTownSays_45 rfl rfl ?_
    refine v_getH (pc := 46) fg_X9_49_9 dX9_asTownSays_46 hV.1 hV.2.2.2.2.2.2.2.2.2.2 ?_
    refine v_iconst (pc := 49) (v := nI 3) dX9_asTownSays_49 (by decide) ?_
    refine v_aload_n (pc := 50) dX9_asTownSays_50 rfl rfl ?_
    refine v_gets (pc := 51) (i := 0) (nm := "LESSER") (by decide) (Or.inr gs_X9_95) dX9_asTownSays_51 ?_
    refine v_iload_n (pc := 54) dX9_asTownSays_54 rfl rfl ?_
    refine v_stN0 (pc := 55) dX9_asTownSays_55 (by omega) ?_
    refine v_ci (pc := 56) (v_rV (c_X9_friendsOf G l hL hh (m := b_m b (w_l k)) (((cF_u (cF_u (cF_u cF_rf))) _ _ (by omega)).trans (hC.2.2.2.1 _ (by omega))) ⟨by omega, hB.2.2.2.2.1 _⟩) rfl kV_X9_123 (v_rcO hV.1 rfl (by decide)) ⟨Nat.le_of_ble_eq_true rfl, Nat.le_of_ble_eq_true rfl⟩ ⟨Nat.le_of_ble_eq_true rfl, Nat.le_of_ble_eq_true rfl⟩ dX9_asTownSays_56 (Nat.le_of_ble_eq_true rfl)) (fun x56 M56 h56 => ?_)
    obtain ⟨rfl, rfl⟩ := h56
    refine v_iastoreN (pc := 59) dX9_asTownSays_59 hV.2.1.2.2.2.2.2.2.2.2 ⟨by omega, by omega⟩ ?_
    refine v_aload_n (pc := 60) dX9_asTownSays_60 rfl rfl ?_
    refine v_getH (pc := 61) fg_X9_49_9 dX9_asTownSays_61 hV.1 hV.2.2.2.2.2.2.2.2.2.2 ?_
    refine v_iconst (pc := 64) (v := nI 4) dX9_asTownSays_64 (by decide) ?_
    refine v_aload_n (pc := 65) dX9_asTownSays_65 rfl rfl ?_
    refine v_gets (pc := 66) (i := 1) (nm := "GREATER") (by decide) (Or.inr gs_X9_98) dX9_asTownSays_66 ?_
    refine v_iload_n (pc := 69) dX9_asTownSays_69 rfl rfl ?_
    refine v_stN1 (pc := 70) dX9_asTownSays_70 (by omega) ?_
    refine v_ci (pc := 71) (v_rV (c_X9_friendsOf G l hL hh (m := b_m b (w_g k)) (((cF_u (cF_u (cF_u (cF_u cF_rf)))) _ _ (by omega)).trans (hC.2.2.2.1 _ (by omega))) ⟨by omega, hB.2.2.2.2.1 _⟩) rfl kV_X9_123 (v_rcO hV.1 rfl (by decide)) ⟨Nat.le_of_ble_eq_true rfl, Nat.le_of_ble_eq_true rfl⟩ ⟨Nat.le_of_ble_eq_true rfl, Nat.le_of_ble_eq_true rfl⟩ dX9_asTownSays_71 (Nat.le_of_ble_eq_true rfl)) (fun x71 M71 h71 => ?_)
    obtain ⟨rfl, rfl⟩ := h71
    refine v_iastoreN (pc := 74) dX9_asTownSays_74 hV.2.1.2.2.2.2.2.2.2.2 ⟨by omega, by omega⟩ ?_
    refine v_aload_n (pc := 75) dX9_asTownSays_75 rfl rfl ?_
    refine v_getH (pc := 76) fg_X9_49_9 dX9_asTownSays_76 hV.1 hV.2.2.2.2.2.2.2.2.2.2 ?_
    refine v_iconst (pc := 79) (v := nI 5) dX9_asTownSays_79 (by decide) ?_
    refine v_aload_n (pc := 80) dX9_asTownSays_80 rfl rfl ?_
    refine v_getV (pc := 81) fg_X9_59_9 dX9_asTownSays_81 hV.1 (((cF_u (cF_u (cF_u (cF_u (cF_u cF_rf))))) _ _ (by omega)).trans hC.2.2.1) ?_
    refine v_bipush (pc := 84) (v := nI 10) dX9_asTownSays_84 (by decide) ?_
    refine v_iremN (pc := 86) (by omega) (by omega) (by omega) dX9_asTownSays_86 ?_
    refine v_iastoreN (pc := 87) dX9_asTownSays_87 hV.2.1.2.2.2.2.2.2.2.2 ⟨by omega, by omega⟩ ?_
    refine v_aload_n (pc := 88) dX9_asTownSays_88 rfl rfl ?_
    refine v_getH (pc := 89) fg_X9_62_9 dX9_asTownSays_89 hV.1 hr ?_
    refine v_iload_n (pc := 92) dX9_asTownSays_92 rfl rfl ?_
    refine v_aload_n (pc := 93) dX9_asTownSays_93 rfl rfl ?_
    refine v_getH (pc := 94) fg_X9_49_9 dX9_asTownSays_94 hV.1 hV.2.2.2.2.2.2.2.2.2.2 ?_
    have hTC2 := TC_o hTC (I' := (v_u (v_u (v_u (v_u (v_u (v_u I (h + 9) 0 (nI (w_l k))) (h + 9) 1 (nI (w_g k))) (h + 9) 2 (nI (if (b_m b (w_l k)).testBit (w_g k) = true then 1 else 0))) (h + 9) 3 (nI (cnt (fun i => (b_m b (w_l k)).testBit i) 7))) (h + 9) 4 (nI (cnt (fun i => (b_m b (w_g k)).testBit i) 7))) (h + 9) 5 (nI (b_y b % 10)))) (fun a z l1 l2 => (cF_u (cF_u (cF_u (cF_u (cF_u (cF_u cF_rf)))))) a z (by have := hTH.2.2.2; rcases hh with rfl | rfl | rfl <;> omega))
    have hf : ∀ f, f < 6 → (v_u (v_u (v_u (v_u (v_u (v_u I (h + 9) 0 (nI (w_l k))) (h + 9) 1 (nI (w_g k))) (h + 9) 2 (nI (if (b_m b (w_l k)).testBit (w_g k) = true then 1 else 0))) (h + 9) 3 (nI (cnt (fun i => (b_m b (w_l k)).testBit i) 7))) (h + 9) 4 (nI (cnt (fun i => (b_m b (w_g k)).testBit i) 7))) (h + 9) 5 (nI (b_y b % 10))) (h + 9) f = nI (w_fact (c_vw b hm p) (w_l k) (w_g k) f) ∧ w_fact (c_vw b hm p) (w_l k) (w_g k) f < 1000 := by
      intro f hf6
      refine ⟨?_, Nat.lt_trans (w_fact_lt _ (by omega) (by omega) f) (by decide)⟩
      rcases (show f = 0 ∨ f = 1 ∨ f = 2 ∨ f = 3 ∨ f = 4 ∨ f = 5 by omega) with rfl | rfl | rfl | rfl | rfl | rfl
      · show _ = nI (w_l k); simp [v_u]
      · show _ = nI (w_g k); simp [v_u]
      · show _ = nI (if (b_m b (w_l k)).testBit (w_g k) = true then 1 else 0); simp [v_u]
      · show _ = nI (cnt (fun i => (b_m b (w_l k)).testBit i) 7); simp [v_u]
      · show _ = nI (cnt (fun i => (b_m b (w_g k)).testBit i) 7); simp [v_u]
      · show _ = nI (b_y b % 10); simp [v_u]
    refine v_ci (pc := 97) (v_rV (c_X7_together G l (p := p) (fv := w_fact (c_vw b hm p) (w_l k) (w_g k)) hTH hTC2 hw hV.2.1.2.2.2.2.2.2.2.2 hf) rfl kV_X9_126 (v_rcO hTH.1 rfl (by decide)) ⟨Nat.le_of_ble_eq_true rfl, Nat.le_of_ble_eq_true rfl⟩ ⟨Nat.le_of_ble_eq_true rfl, Nat.le_of_ble_eq_true rfl⟩ dX9_asTownSays_97 (Nat.le_of_ble_eq_true rfl)) (fun x97 M97 h97 => ?_)
    obtain ⟨rfl, rfl⟩ := h97
    exact v_iret (pc := 100) dX9_asTownSays_100 rfl rfl (Nat.le_of_ble_eq_true rfl) (Nat.le_of_ble_eq_true rfl) ⟨rfl, _, rfl, (cF_u (cF_u (cF_u (cF_u (cF_u (cF_u cF_rf))))))⟩
abbrev rm_X9_wantedOf : Room := { frames := 4, cells := 0, slots := 0, locals := 99 }
set_option maxRecDepth 20000 in
theorem c_X9_wantedOf (G : v_G) (l : Launch) {K : Nat × v_TY} {I : Nat → Nat → Int32} {J : Nat → Nat → Int64} {R : Nat → Nat → Option Nat} (hL : Lay K R) {h : Nat} (hh : v_3 h) {k : Nat} {b : BS} {hm : Nat} {p : CLS} (hv : CV K I R h b hm p) (hk : k < 15) : v_M G l yX9_wantedOf cX9_wantedOf 2 (some .int) rm_X9_wantedOf [.ref h, .int (nI k)] (K, I, J, R) (v_Qi G (fun (x : Int32) (M' : v_MM) => x = nI (w_sum (c_vw b hm p) 0 (w_l k) (w_g k)) ∧ ∃ I', M' = (K, I', J, R) ∧ cF h I I')) := by
  refine v_of [some (.ref h), some (.int (nI k))] (by decide) (Nat.le_of_ble_eq_true rfl) (Nat.le_of_ble_eq_true rfl) rfl ?_
  have hV := VH_of hL hh
  refine v_aload_n (pc := 0) dX9_wantedOf_0 rfl rfl ?_
  refine v_iconst (pc := 1) (v := nI 0) dX9_wantedOf_1 (by decide) ?_
  refine v_iload_n (pc := 2) dX9_wantedOf_2 rfl rfl ?_
  refine v_ci (pc := 3) (v_rV (c_X9_asTownSays G l hL hh (w := 0) hv (by decide) hk) rfl kV_X9_115 (v_rcO hV.1 rfl (by decide)) ⟨Nat.le_of_ble_eq_true rfl, Nat.le_of_ble_eq_true rfl⟩ ⟨Nat.le_of_ble_eq_true rfl, Nat.le_of_ble_eq_true rfl⟩ dX9_wantedOf_3 (Nat.le_of_ble_eq_true rfl)) (fun x3 M3 h3 => ?_)
  obtain ⟨rfl, Ix3, rfl, fx3⟩ := h3
  exact v_iret (pc := 6) dX9_wantedOf_6 rfl rfl (Nat.le_of_ble_eq_true rfl) (Nat.le_of_ble_eq_true rfl) ⟨rfl, _, rfl, fx3⟩
abbrev rm_X9_priceOf : Room := { frames := 4, cells := 0, slots := 0, locals := 99 }
set_option maxRecDepth 20000 in
theorem c_X9_priceOf (G : v_G) (l : Launch) {K : Nat × v_TY} {I : Nat → Nat → Int32} {J : Nat → Nat → Int64} {R : Nat → Nat → Option Nat} (hL : Lay K R) {h : Nat} (hh : v_3 h) {k : Nat} {b : BS} {hm : Nat} {p : CLS} (hv : CV K I R h b hm p) (hk : k < 15) : v_M G l yX9_priceOf cX9_priceOf 2 (some .int) rm_X9_priceOf [.ref h, .int (nI k)] (K, I, J, R) (v_Qi G (fun (x : Int32) (M' : v_MM) => x = nI (w_price (c_vw b hm p) (w_l k) (w_g k)) ∧ ∃ I', M' = (K, I', J, R) ∧ cF h I I')) := by
  refine v_of [some (.ref h), some (.int (nI k))] (by decide) (Nat.le_of_ble_eq_true rfl) (Nat.le_of_ble_eq_true rfl) rfl ?_
  have hV := VH_of hL hh
  refine v_aload_n (pc := 0) dX9_priceOf_0 rfl rfl ?_
  refine v_aload_n (pc := 1) dX9_priceOf_1 rfl rfl ?_
  refine v_iload_n (pc := 2) dX9_priceOf_2 rfl rfl ?_
  refine v_ci (pc := 3) (v_rV (c_X9_areFriends G l hL hh (km := b_m b) hv.1.2.2.2.1 hk) rfl kV_X9_104 (v_rcO hV.1 rfl (by decide)) ⟨Nat.le_of_ble_eq_true rfl, Nat.le_of_ble_eq_true rfl⟩ ⟨Nat.le_of_ble_eq_true rfl, Nat.le_of_ble_eq_true rfl⟩ dX9_priceOf_3 (Nat.le_of_ble_eq_true rfl)) (fun x3 M3 h3 => ?_)
  obtain ⟨rfl, rfl⟩ := h3
  refine v_if_eqP (pc := 6) (tgt := 13) dX9_priceOf_6 (by decide) (fun c6 => ?_) (fun c6 => ?_)
  · refine v_iconst (pc := 13) (v := nI 1) dX9_priceOf_13 (by decide) ?_
    refine v_iload_n (pc := 14) dX9_priceOf_14 rfl rfl ?_
    refine v_ci (pc := 15) (v_rV (c_X9_asTownSays G l hL hh hv (by decide) hk) rfl kV_X9_115 (v_rcO hV.1 rfl (by decide)) ⟨Nat.le_of_ble_eq_true rfl, Nat.le_of_ble_eq_true rfl⟩ ⟨Nat.le_of_ble_eq_true rfl, Nat.le_of_ble_eq_true rfl⟩ dX9_priceOf_15 (Nat.le_of_ble_eq_true rfl)) (fun x15 M15 h15 => ?_)
    obtain ⟨rfl, Ix15, rfl, fx15⟩ := h15
    exact v_iret (pc := 18) dX9_priceOf_18 rfl rfl (Nat.le_of_ble_eq_true rfl) (Nat.le_of_ble_eq_true rfl) ⟨by show _ = nI (w_sum (c_vw b hm p) (if (b_m b (w_l k)).testBit (w_g k) = true then 2 else 1) (w_l k) (w_g k)); first | rw [if_pos c6] | rw [if_neg c6], _, rfl, fx15⟩
  · refine v_iconst (pc := 9) (v := nI 2) dX9_priceOf_9 (by decide) ?_
    refine v_goto (pc := 10) (tgt := 14) dX9_priceOf_10 (by decide) ?_
    refine v_iload_n (pc := 14) dX9_priceOf_14 rfl rfl ?_
    refine v_ci (pc := 15) (v_rV (c_X9_asTownSays G l hL hh hv (by decide) hk) rfl kV_X9_115 (v_rcO hV.1 rfl (by decide)) ⟨Nat.le_of_ble_eq_true rfl, Nat.le_of_ble_eq_true rfl⟩ ⟨Nat.le_of_ble_eq_true rfl, Nat.le_of_ble_eq_true rfl⟩ dX9_priceOf_15 (Nat.le_of_ble_eq_true rfl)) (fun x15 M15 h15 => ?_)
    obtain ⟨rfl, Ix15, rfl, fx15⟩ := h15
    exact v_iret (pc := 18) dX9_priceOf_18 rfl rfl (Nat.le_of_ble_eq_true rfl) (Nat.le_of_ble_eq_true rfl) ⟨by show _ = nI (w_sum (c_vw b hm p) (if (b_m b (w_l k)).testBit (w_g k) = true then 2 else 1) (w_l k) (w_g k)); first | rw [if_pos c6] | rw [if_neg c6], _, rfl, fx15⟩
