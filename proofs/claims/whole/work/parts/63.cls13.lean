/-! THE CLASS: cheapest -/
def CSt (I : Nat → Nat → Int32) (z : CH) : Prop := match z with
  | none => I 42 0 = -5 ∧ I 42 1 = -5 ∧ I 42 2 = -5 ∧ I 42 3 = -5
  | some d => I 42 0 = nI d.1 ∧ I 42 1 = nI d.2.1 ∧ I 42 2 = d.2.2.1 ∧ I 42 3 = d.2.2.2
theorem CSt_o {I I' : Nat → Nat → Int32} {z : CH} (h : CSt I z) (e : ∀ w, I' 42 w = I 42 w) : CSt I' z := by
  cases z with
  | none => exact ⟨(e _).trans h.1, (e _).trans h.2.1, (e _).trans h.2.2.1, (e _).trans h.2.2.2⟩
  | some d => exact ⟨(e _).trans h.1, (e _).trans h.2.1, (e _).trans h.2.2.1, (e _).trans h.2.2.2⟩
theorem nI_m5b {k : Nat} (hk : k < 5000) : ¬ nI k = -5 := by
  intro q
  have := congrArg Int32.toInt q
  rw [nI_toInt (by omega)] at this
  have e : (-5 : Int32).toInt = -5 := rfl
  omega
theorem tk_no {ok : Bool} {c d : Nat × Nat × Int32 × Int32} (h : ¬ c.1 < d.1) : w_tk ok c (some d) = some d := by
  cases ok
  · exact tk_f
  · exact tk_ge h
theorem cs_end {I : Nat → Nat → Int32} {b : BS} {p : CLS} {w : Nat} (h : CSt I (w_c3 b p (w_pr (b_n b)) (w_pr (b_n b)))) (hw : w < 4) : I 42 w = s_cheap b p (nI w) := by
  have hx := x_nat_s hw (show 4 < 2 ^ 31 by decide)
  unfold s_cheap
  rw [hx]
  rcases e : w_c3 b p (w_pr (b_n b)) (w_pr (b_n b)) with - | d <;> rw [e] at h
  · rcases (show w = 0 ∨ w = 1 ∨ w = 2 ∨ w = 3 by omega) with rfl | rfl | rfl | rfl
    · exact h.1
    · exact h.2.1
    · exact h.2.2.1
    · exact h.2.2.2
  · rcases (show w = 0 ∨ w = 1 ∨ w = 2 ∨ w = 3 by omega) with rfl | rfl | rfl | rfl
    · exact h.1
    · exact h.2.1
    · exact h.2.2.1
    · exact h.2.2.2
def cO (I I' : Nat → Nat → Int32) : Prop := ∀ a w, ¬ (a = 10 ∨ a = 30 ∨ a = 41 ∨ a = 42) → I' a w = I a w
theorem cR_O {I I' : Nat → Nat → Int32} (h : cO I I') : cR I I' := fun a w n => h a w (fun e => n (by unfold m_cr; omega))
theorem CV_O {K : Nat × v_TY} {I I' : Nat → Nat → Int32} {R : Nat → Nat → Option Nat} {hm : Nat} {b : BS} {p : CLS} (hv : CV K I R 21 b hm p) (j : cO I I') : CV K I' R 21 b hm p := by
  refine ⟨⟨(j _ _ (by decide)).trans hv.1.1, (j _ _ (by decide)).trans hv.1.2.1, (j _ _ (by decide)).trans hv.1.2.2.1, fun i hi => (j _ _ (by decide)).trans (hv.1.2.2.2.1 i hi), fun q hq => (j _ _ (by decide)).trans (hv.1.2.2.2.2 q hq)⟩, hv.2.1, hv.2.2.1, fun i hi => ?_, ?_⟩
  · obtain ⟨a, g1, g2⟩ := hv.2.2.2.1 i hi
    exact ⟨a, g1, PS_o g2 (fun z => j a z (by have := g2.1; omega))⟩
  · exact TN_o hv.2.2.2.2 (fun a z l1 l2 => j a z (by omega)) (fun a z l => rfl)
abbrev rm_X11_offer : Room := { frames := 12, cells := 0, slots := 0, locals := 591 }
set_option maxRecDepth 20000 in
theorem c_X11_offer (G : v_G) (l : Launch) {K : Nat × v_TY} {I : Nat → Nat → Int32} {J : Nat → Nat → Int64} {R : Nat → Nat → Option Nat} (hL : Lay K R) {c mm : Nat} {one oth : Int32} {z : CH} {b : BS} {hm : Nat} {p : CLS} (hv : CV K I R 21 b hm p) (hz : CSt I z) (hcb : CB 2 z) (hc : c < 4000) : v_M G l yX11_offer cX11_offer 6 none rm_X11_offer [.ref 0, .int (nI c), .int (nI mm), .int one, .int oth] (K, I, J, R) (v_Qv G (fun (M' : v_MM) => ∃ I', M' = (K, I', J, R) ∧ CSt I' (w_tk (decide (w_many (c_vw b hm p) = 0)) (c, mm, one, oth) z) ∧ ∀ a w, a ≠ 42 → a ≠ 30 → I' a w = I a w)) := by
  refine v_of [some (.ref 0), some (.int (nI c)), some (.int (nI mm)), some (.int one), some (.int oth), none] (by decide) (Nat.le_of_ble_eq_true rfl) (Nat.le_of_ble_eq_true rfl) rfl ?_
  rcases z with - | d
  · refine v_aload_n (pc := 0) dX11_offer_0 rfl rfl ?_
    refine v_getH (pc := 1) fg_X11_52_11 dX11_offer_1 (li_0 hL) (lr_0_11 hL) ?_
    refine v_iconst (pc := 4) (v := nI 0) dX11_offer_4 (by decide) ?_
    refine v_ialoadN (pc := 5) dX11_offer_5 (li_42 hL) ⟨by omega, by omega⟩ hz.1 ?_
    refine v_bipush (pc := 6) (v := -5) dX11_offer_6 (by decide) ?_
    refine v_icmp_eq (pc := 8) (tgt := 21) dX11_offer_8 (by decide) (fun c8 => ?_) (fun c8 => ?_)
    · refine v_iconst (pc := 21) (v := nI 1) dX11_offer_21 (by decide) ?_
      refine v_goto (pc := 22) (tgt := 26) dX11_offer_22 (by decide) ?_
      refine v_istore (pc := 26) dX11_offer_26 (by decide) rfl ?_
      refine v_iload (pc := 28) dX11_offer_28 rfl ?_
      refine v_if_eqN (pc := 30) (tgt := 72) (by omega) dX11_offer_30 (by decide) (fun c30 => ?_) (fun c30 => ?_)
      · exact v_vret (pc := 72) dX11_offer_72 rfl (Nat.le_of_ble_eq_true rfl) (Nat.le_of_ble_eq_true rfl) (by first | exact absurd c30 (by decide) | exact absurd rfl c30 | exact ⟨I, rfl, by rw [rfl]; exact hz, fun a w _ _ => rfl⟩ | exact ⟨I37, rfl, by rw [decide_eq_false c40, tk_f]; exact CSt_o hz (fun w => f37 _ _ (by decide)), fun a w n m => f37 a w m⟩ | exact ⟨_, rfl, by rw [decide_eq_true c40, show w_tk true (c, mm, one, oth) none = some (c, mm, one, oth) from rfl]; exact ⟨by simp [v_u], by simp [v_u], by simp [v_u], by simp [v_u]⟩, fun a w n m => (v_u_h n).trans ((v_u_h n).trans ((v_u_h n).trans ((v_u_h n).trans (f37 a w m))))⟩)
      · refine v_aload_n (pc := 33) dX11_offer_33 rfl rfl ?_
        refine v_getH (pc := 34) fg_X11_21_11 dX11_offer_34 (li_0 hL) (lr_0_2 hL) ?_
        refine v_ci (pc := 37) (v_rV (c_X9_isAllRight G l hL (Or.inr (Or.inr rfl)) hv) rfl kV_X11_218 (v_rcO (li_21 hL) rfl (by decide)) ⟨Nat.le_of_ble_eq_true rfl, Nat.le_of_ble_eq_true rfl⟩ ⟨Nat.le_of_ble_eq_true rfl, Nat.le_of_ble_eq_true rfl⟩ dX11_offer_37 (Nat.le_of_ble_eq_true rfl)) (fun x37 M37 h37 => ?_)
        obtain ⟨rfl, I37, rfl, f37⟩ := h37
        refine v_if_eqP (pc := 40) (tgt := 72) dX11_offer_40 (by decide) (fun c40 => ?_) (fun c40 => ?_)
        · exact v_vret (pc := 72) dX11_offer_72 rfl (Nat.le_of_ble_eq_true rfl) (Nat.le_of_ble_eq_true rfl) (by first | exact absurd c30 (by decide) | exact absurd rfl c30 | exact ⟨I, rfl, by rw [rfl]; exact hz, fun a w _ _ => rfl⟩ | exact ⟨I37, rfl, by rw [decide_eq_false c40, tk_f]; exact CSt_o hz (fun w => f37 _ _ (by decide)), fun a w n m => f37 a w m⟩ | exact ⟨_, rfl, by rw [decide_eq_true c40, show w_tk true (c, mm, one, oth) none = some (c, mm, one, oth) from rfl]; exact ⟨by simp [v_u], by simp [v_u], by simp [v_u], by simp [v_u]⟩, fun a w n m => (v_u_h n).trans ((v_u_h n).trans ((v_u_h n).trans ((v_u_h n).trans (f37 a w m))))⟩)
        · refine v_aload_n (pc := 43) dX11_offer_43 rfl rfl ?_
          refine v_getH (pc := 44) fg_X11_52_11 dX11_offer_44 (li_0 hL) (lr_0_11 hL) ?_
          refine v_iconst (pc := 47) (v := nI 0) dX11_offer_47 (by decide) ?_
          refine v_iload_n (pc := 48) dX11_offer_48 rfl rfl ?_
          refine v_iastoreN (pc := 49) dX11_offer_49 (li_42 hL) ⟨by omega, by omega⟩ ?_
          refine v_aload_n (pc := 50) dX11_offer_50 rfl rfl ?_
          refine v_getH (pc := 51) fg_X11_52_11 dX11_offer_51 (li_0 hL) (lr_0_11 hL) ?_
          refine v_iconst (pc := 54) (v := nI 1) dX11_offer_54 (by decide) ?_
          refine v_iload_n (pc := 55) dX11_offer_55 rfl rfl ?_
          refine v_iastoreN (pc := 56) dX11_offer_56 (li_42 hL) ⟨by omega, by omega⟩ ?_
          refine v_aload_n (pc := 57) dX11_offer_57 rfl rfl ?_
          refine v_getH (pc := 58) fg_X11_52_11 dX11_offer_58 (li_0 hL) (lr_0_11 hL) ?_
          refine v_iconst (pc := 61) (v := nI 2) dX11_offer_61 (by decide) ?_
          refine v_iload_n (pc := 62) dX11_offer_62 rfl rfl ?_
          refine v_iastoreN (pc := 63) dX11_offer_63 (li_42 hL) ⟨by omega, by omega⟩ ?_
          refine v_aload_n (pc := 64) dX11_offer_64 rfl rfl ?_
          refine v_getH (pc := 65) fg_X11_52_11 dX11_offer_65 (li_0 hL) (lr_0_11 hL) ?_
          refine v_iconst (pc := 68) (v := nI 3) dX11_offer_68 (by decide) ?_
          refine v_iload (pc := 69) dX11_offer_69 rfl ?_
          refine v_iastoreN (pc := 71) dX11_offer_71 (li_42 hL) ⟨by omega, by omega⟩ ?_
          exact v_vret (pc := 72) dX11_offer_72 rfl (Nat.le_of_ble_eq_true rfl) (Nat.le_of_ble_eq_true rfl) (by first | exact absurd c30 (by decide) | exact absurd rfl c30 | exact ⟨I, rfl, by rw [rfl]; exact hz, fun a w _ _ => rfl⟩ | exact ⟨I37, rfl, by rw [decide_eq_false c40, tk_f]; exact CSt_o hz (fun w => f37 _ _ (by decide)), fun a w n m => f37 a w m⟩ | exact ⟨_, rfl, by rw [decide_eq_true c40, show w_tk true (c, mm, one, oth) none = some (c, mm, one, oth) from rfl]; exact ⟨by simp [v_u], by simp [v_u], by simp [v_u], by simp [v_u]⟩, fun a w n m => (v_u_h n).trans ((v_u_h n).trans ((v_u_h n).trans ((v_u_h n).trans (f37 a w m))))⟩)
    · exact absurd rfl c8
  · have hd := (hcb d rfl).1
    refine v_aload_n (pc := 0) dX11_offer_0 rfl rfl ?_
    refine v_getH (pc := 1) fg_X11_52_11 dX11_offer_1 (li_0 hL) (lr_0_11 hL) ?_
    refine v_iconst (pc := 4) (v := nI 0) dX11_offer_4 (by decide) ?_
    refine v_ialoadN (pc := 5) dX11_offer_5 (li_42 hL) ⟨by omega, by omega⟩ hz.1 ?_
    refine v_bipush (pc := 6) (v := -5) dX11_offer_6 (by decide) ?_
    refine v_icmp_eq (pc := 8) (tgt := 21) dX11_offer_8 (by decide) (fun c8 => ?_) (fun c8 => ?_)
    · exact absurd c8 (nI_m5b (by omega))
    · refine v_iload_n (pc := 11) dX11_offer_11 rfl rfl ?_
      refine v_aload_n (pc := 12) dX11_offer_12 rfl rfl ?_
      refine v_getH (pc := 13) fg_X11_52_11 dX11_offer_13 (li_0 hL) (lr_0_11 hL) ?_
      refine v_iconst (pc := 16) (v := nI 0) dX11_offer_16 (by decide) ?_
      refine v_ialoadN (pc := 17) dX11_offer_17 (li_42 hL) ⟨by omega, by omega⟩ hz.1 ?_
      refine v_icmp_geN (pc := 18) (tgt := 25) ⟨by omega, by omega⟩ dX11_offer_18 (by decide) (fun c18 => ?_) (fun c18 => ?_)
      · refine v_iconst (pc := 25) (v := nI 0) dX11_offer_25 (by decide) ?_
        refine v_istore (pc := 26) dX11_offer_26 (by decide) rfl ?_
        refine v_iload (pc := 28) dX11_offer_28 rfl ?_
        refine v_if_eqN (pc := 30) (tgt := 72) (by omega) dX11_offer_30 (by decide) (fun c30 => ?_) (fun c30 => ?_)
        · exact v_vret (pc := 72) dX11_offer_72 rfl (Nat.le_of_ble_eq_true rfl) (Nat.le_of_ble_eq_true rfl) (by first | exact absurd c30 (by decide) | exact absurd rfl c30 | exact ⟨I, rfl, by rw [tk_no (Nat.not_lt.mpr c18)]; exact hz, fun a w _ _ => rfl⟩ | exact ⟨I37, rfl, by rw [decide_eq_false c40, tk_f]; exact CSt_o hz (fun w => f37 _ _ (by decide)), fun a w n m => f37 a w m⟩ | exact ⟨_, rfl, by rw [decide_eq_true c40, tk_lt c18]; exact ⟨by simp [v_u], by simp [v_u], by simp [v_u], by simp [v_u]⟩, fun a w n m => (v_u_h n).trans ((v_u_h n).trans ((v_u_h n).trans ((v_u_h n).trans (f37 a w m))))⟩)
        · refine v_aload_n (pc := 33) dX11_offer_33 rfl rfl ?_
          refine v_getH (pc := 34) fg_X11_21_11 dX11_offer_34 (li_0 hL) (lr_0_2 hL) ?_
          refine v_ci (pc := 37) (v_rV (c_X9_isAllRight G l hL (Or.inr (Or.inr rfl)) hv) rfl kV_X11_218 (v_rcO (li_21 hL) rfl (by decide)) ⟨Nat.le_of_ble_eq_true rfl, Nat.le_of_ble_eq_true rfl⟩ ⟨Nat.le_of_ble_eq_true rfl, Nat.le_of_ble_eq_true rfl⟩ dX11_offer_37 (Nat.le_of_ble_eq_true rfl)) (fun x37 M37 h37 => ?_)
          obtain ⟨rfl, I37, rfl, f37⟩ := h37
          refine v_if_eqP (pc := 40) (tgt := 72) dX11_offer_40 (by decide) (fun c40 => ?_) (fun c40 => ?_)
          · exact v_vret (pc := 72) dX11_offer_72 rfl (Nat.le_of_ble_eq_true rfl) (Nat.le_of_ble_eq_true rfl) (by first | exact absurd c30 (by decide) | exact absurd rfl c30 | exact ⟨I, rfl, by rw [tk_no (Nat.not_lt.mpr c18)]; exact hz, fun a w _ _ => rfl⟩ | exact ⟨I37, rfl, by rw [decide_eq_false c40, tk_f]; exact CSt_o hz (fun w => f37 _ _ (by decide)), fun a w n m => f37 a w m⟩ | exact ⟨_, rfl, by rw [decide_eq_true c40, tk_lt c18]; exact ⟨by simp [v_u], by simp [v_u], by simp [v_u], by simp [v_u]⟩, fun a w n m => (v_u_h n).trans ((v_u_h n).trans ((v_u_h n).trans ((v_u_h n).trans (f37 a w m))))⟩)
          · refine v_aload_n (pc := 43) dX11_offer_43 rfl rfl ?_
            refine v_getH (pc := 44) fg_X11_52_11 dX11_offer_44 (li_0 hL) (lr_0_11 hL) ?_
            refine v_iconst (pc := 47) (v := nI 0) dX11_offer_47 (by decide) ?_
            refine v_iload_n (pc := 48) dX11_offer_48 rfl rfl ?_
            refine v_iastoreN (pc := 49) dX11_offer_49 (li_42 hL) ⟨by omega, by omega⟩ ?_
            refine v_aload_n (pc := 50) dX11_offer_50 rfl rfl ?_
            refine v_getH (pc := 51) fg_X11_52_11 dX11_offer_51 (li_0 hL) (lr_0_11 hL) ?_
            refine v_iconst (pc := 54) (v := nI 1) dX11_offer_54 (by decide) ?_
            refine v_iload_n (pc := 55) dX11_offer_55 rfl rfl ?_
            refine v_iastoreN (pc := 56) dX11_offer_56 (li_42 hL) ⟨by omega, by omega⟩ ?_
            refine v_aload_n (pc := 57) dX11_offer_57 rfl rfl ?_
            refine v_getH (pc := 58) fg_X11_52_11 dX11_offer_58 (li_0 hL) (lr_0_11 hL) ?_
            refine v_iconst (pc := 61) (v := nI 2) dX11_offer_61 (by decide) ?_
            refine v_iload_n (pc := 62) dX11_offer_62 rfl rfl ?_
            refine v_iastoreN (pc := 63) dX11_offer_63 (li_42 hL) ⟨by omega, by omega⟩ ?_
            refine v_aload_n (pc := 64) dX11_offer_64 rfl rfl ?_
            refine v_getH (pc := 65) fg_X11_52_11 dX11_offer_65 (li_0 hL) (lr_0_11 hL) ?_
            refine v_iconst (pc := 68) (v := nI 3) dX11_offer_68 (by decide) ?_
            refine v_iload (pc := 69) dX11_offer_69 rfl ?_
            refine v_iastoreN (pc := 71) dX11_offer_71 (li_42 hL) ⟨by omega, by omega⟩ ?_
            exact v_vret (pc := 72) dX11_offer_72 rfl (Nat.le_of_ble_eq_true rfl) (Nat.le_of_ble_eq_true rfl) (by first | exact absurd c30 (by decide) | exact absurd rfl c30 | exact ⟨I, rfl, by rw [tk_no (Nat.not_lt.mpr c18)]; exact hz, fun a w _ _ => rfl⟩ | exact ⟨I37, rfl, by rw [decide_eq_false c40, tk_f]; exact CSt_o hz (fun w => f37 _ _ (by decide)), fun a w n m => f37 a w m⟩ | exact ⟨_, rfl, by rw [decide_eq_true c40, tk_lt c18]; exact ⟨by simp [v_u], by simp [v_u], by simp [v_u], by simp [v_u]⟩, fun a w n m => (v_u_h n).trans ((v_u_h n).trans ((v_u_h n).trans ((v_u_h n).trans (f37 a w m))))⟩)
      · refine v_iconst (pc := 21) (v := nI 1) dX11_offer_21 (by decide) ?_
        refine v_goto (pc := 22) (tgt := 26) dX11_offer_22 (by decide) ?_
        refine v_istore (pc := 26) dX11_offer_26 (by decide) rfl ?_
        refine v_iload (pc := 28) dX11_offer_28 rfl ?_
        refine v_if_eqN (pc := 30) (tgt := 72) (by omega) dX11_offer_30 (by decide) (fun c30 => ?_) (fun c30 => ?_)
        · exact v_vret (pc := 72) dX11_offer_72 rfl (Nat.le_of_ble_eq_true rfl) (Nat.le_of_ble_eq_true rfl) (by first | exact absurd c30 (by decide) | exact absurd rfl c30 | exact ⟨I, rfl, by rw [tk_no (Nat.not_lt.mpr c18)]; exact hz, fun a w _ _ => rfl⟩ | exact ⟨I37, rfl, by rw [decide_eq_false c40, tk_f]; exact CSt_o hz (fun w => f37 _ _ (by decide)), fun a w n m => f37 a w m⟩ | exact ⟨_, rfl, by rw [decide_eq_true c40, tk_lt c18]; exact ⟨by simp [v_u], by simp [v_u], by simp [v_u], by simp [v_u]⟩, fun a w n m => (v_u_h n).trans ((v_u_h n).trans ((v_u_h n).trans ((v_u_h n).trans (f37 a w m))))⟩)
        · refine v_aload_n (pc := 33) dX11_offer_33 rfl rfl ?_
          refine v_getH (pc := 34) fg_X11_21_11 dX11_offer_34 (li_0 hL) (lr_0_2 hL) ?_
          refine v_ci (pc := 37) (v_rV (c_X9_isAllRight G l hL (Or.inr (Or.inr rfl)) hv) rfl kV_X11_218 (v_rcO (li_21 hL) rfl (by decide)) ⟨Nat.le_of_ble_eq_true rfl, Nat.le_of_ble_eq_true rfl⟩ ⟨Nat.le_of_ble_eq_true rfl, Nat.le_of_ble_eq_true rfl⟩ dX11_offer_37 (Nat.le_of_ble_eq_true rfl)) (fun x37 M37 h37 => ?_)
          obtain ⟨rfl, I37, rfl, f37⟩ := h37
          refine v_if_eqP (pc := 40) (tgt := 72) dX11_offer_40 (by decide) (fun c40 => ?_) (fun c40 => ?_)
          · exact v_vret (pc := 72) dX11_offer_72 rfl (Nat.le_of_ble_eq_true rfl) (Nat.le_of_ble_eq_true rfl) (by first | exact absurd c30 (by decide) | exact absurd rfl c30 | exact ⟨I, rfl, by rw [tk_no (Nat.not_lt.mpr c18)]; exact hz, fun a w _ _ => rfl⟩ | exact ⟨I37, rfl, by rw [decide_eq_false c40, tk_f]; exact CSt_o hz (fun w => f37 _ _ (by decide)), fun a w n m => f37 a w m⟩ | exact ⟨_, rfl, by rw [decide_eq_true c40, tk_lt c18]; exact ⟨by simp [v_u], by simp [v_u], by simp [v_u], by simp [v_u]⟩, fun a w n m => (v_u_h n).trans ((v_u_h n).trans ((v_u_h n).trans ((v_u_h n).trans (f37 a w m))))⟩)
          · refine v_aload_n (pc := 43) dX11_offer_43 rfl rfl ?_
            refine v_getH (pc := 44) fg_X11_52_11 dX11_offer_44 (li_0 hL) (lr_0_11 hL) ?_
            refine v_iconst (pc := 47) (v := nI 0) dX11_offer_47 (by decide) ?_
            refine v_iload_n (pc := 48) dX11_offer_48 rfl rfl ?_
            refine v_iastoreN (pc := 49) dX11_offer_49 (li_42 hL) ⟨by omega, by omega⟩ ?_
            refine v_aload_n (pc := 50) dX11_offer_50 rfl rfl ?_
            refine v_getH (pc := 51) fg_X11_52_11 dX11_offer_51 (li_0 hL) (lr_0_11 hL) ?_
            refine v_iconst (pc := 54) (v := nI 1) dX11_offer_54 (by decide) ?_
            refine v_iload_n (pc := 55) dX11_offer_55 rfl rfl ?_
            refine v_iastoreN (pc := 56) dX11_offer_56 (li_42 hL) ⟨by omega, by omega⟩ ?_
            refine v_aload_n (pc := 57) dX11_offer_57 rfl rfl ?_
            refine v_getH (pc := 58) fg_X11_52_11 dX11_offer_58 (li_0 hL) (lr_0_11 hL) ?_
            refine v_iconst (pc := 61) (v := nI 2) dX11_offer_61 (by decide) ?_
            refine v_iload_n (pc := 62) dX11_offer_62 rfl rfl ?_
            refine v_iastoreN (pc := 63) dX11_offer_63 (li_42 hL) ⟨by omega, by omega⟩ ?_
            refine v_aload_n (pc := 64) dX11_offer_64 rfl rfl ?_
            refine v_getH (pc := 65) fg_X11_52_11 dX11_offer_65 (li_0 hL) (lr_0_11 hL) ?_
            refine v_iconst (pc := 68) (v := nI 3) dX11_offer_68 (by decide) ?_
            refine v_iload (pc := 69) dX11_offer_69 rfl ?_
            refine v_iastoreN (pc := 71) dX11_offer_71 (li_42 hL) ⟨by omega, by omega⟩ ?_
            exact v_vret (pc := 72) dX11_offer_72 rfl (Nat.le_of_ble_eq_true rfl) (Nat.le_of_ble_eq_true rfl) (by first | exact absurd c30 (by decide) | exact absurd rfl c30 | exact ⟨I, rfl, by rw [tk_no (Nat.not_lt.mpr c18)]; exact hz, fun a w _ _ => rfl⟩ | exact ⟨I37, rfl, by rw [decide_eq_false c40, tk_f]; exact CSt_o hz (fun w => f37 _ _ (by decide)), fun a w n m => f37 a w m⟩ | exact ⟨_, rfl, by rw [decide_eq_true c40, tk_lt c18]; exact ⟨by simp [v_u], by simp [v_u], by simp [v_u], by simp [v_u]⟩, fun a w n m => (v_u_h n).trans ((v_u_h n).trans ((v_u_h n).trans ((v_u_h n).trans (f37 a w m))))⟩)
abbrev rm_X11_cheapest : Room := { frames := 13, cells := 0, slots := 0, locals := 616 }
set_option maxRecDepth 20000 in
theorem c_X11_cheapest (G : v_G) (l : Launch) {K : Nat × v_TY} {I : Nat → Nat → Int32} {J : Nat → Nat → Int64} {R : Nat → Nat → Option Nat} (hL : Lay K R) {ww : Int32} {b : BS} {hm : Nat} {p : CLS} (hv : CV K I R 1 b hm p) (hf : HF b hm) (hA : CPA K R 1) : v_M G l yX11_cheapest cX11_cheapest 5 (some .int) rm_X11_cheapest [.ref 0, .int ww] (K, I, J, R) (v_Qi G (fun (x : Int32) (M' : v_MM) => x = s_cheap b p ww ∧ ∃ I' R', M' = (K, I', J, R') ∧ Lay K R' ∧ cR I I' ∧ cRR R R')) := by
  refine v_of [some (.ref 0), some (.int ww), none, none, none] (by decide) (Nat.le_of_ble_eq_true rfl) (Nat.le_of_ble_eq_true rfl) rfl ?_
  have hB := hv.2.1
  have hn6 := hB.1
  have h15 := pr15 hn6
  have he := ve_now (p := p) hB hf
  have hok := TN_ok hv.2.2.2.2
  refine v_iload_n (pc := 0) dX11_cheapest_0 rfl rfl ?_
  refine v_if_lt (pc := 1) (tgt := 13) dX11_cheapest_1 (by decide) (fun c1 => ?_) (fun c1 => ?_)
  · have e4 : x_nat ww 4 = none := x_nat_n (fun z => ((v_ltI (by decide)).mpr z).1 c1)
    refine v_iconst (pc := 13) (v := -1) dX11_cheapest_13 (by decide) ?_
    exact v_iret (pc := 14) dX11_cheapest_14 rfl rfl (Nat.le_of_ble_eq_true rfl) (Nat.le_of_ble_eq_true rfl) ⟨by simp only [s_cheap, e4], I, R, rfl, hL, cR_rf, cRR_rf⟩
  · refine v_iload_n (pc := 4) dX11_cheapest_4 rfl rfl ?_
    refine v_aload_n (pc := 5) dX11_cheapest_5 rfl rfl ?_
    refine v_getH (pc := 6) fg_X11_52_11 dX11_cheapest_6 (li_0 hL) (lr_0_11 hL) ?_
    refine v_alen (pc := 9) (v := (nI 4)) dX11_cheapest_9 (li_42 hL) (by decide) rfl ?_
    refine v_icmp_lt (pc := 10) (tgt := 15) dX11_cheapest_10 (by decide) (fun c10 => ?_) (fun c10 => ?_)
    · obtain ⟨w, hw, rfl, e4⟩ := x_nat_i ((v_ltI (n := 4) (by decide)).mp ⟨c1, Int32.not_le.mpr c10⟩) (by decide)
      refine v_aload_n (pc := 15) dX11_cheapest_15 rfl rfl ?_
      refine v_getH (pc := 16) fg_X11_21_11 dX11_cheapest_16 (li_0 hL) (lr_0_2 hL) ?_
      refine v_aload_n (pc := 19) dX11_cheapest_19 rfl rfl ?_
      refine v_getH (pc := 20) fg_X11_12_11 dX11_cheapest_20 (li_0 hL) (lr_0_0 hL) ?_
      refine v_cv (pc := 23) (v_rV (c_X9_become G l hL (Or.inr (Or.inr rfl)) (Or.inl rfl) (by decide) hA) rfl kV_X11_177 (v_rcO (li_21 hL) rfl (by decide)) ⟨Nat.le_of_ble_eq_true rfl, Nat.le_of_ble_eq_true rfl⟩ ⟨Nat.le_of_ble_eq_true rfl, Nat.le_of_ble_eq_true rfl⟩ dX11_cheapest_23 (Nat.le_of_ble_eq_true rfl)) (fun M23 h23 => ?_)
      subst h23
      have hBE := BE_of (I := I) (R := R) (h := 21) (g := 1) (Or.inr (Or.inr rfl)) (Or.inl rfl) (by decide)
      have hLb := Lay_be (g := 1) hL (Or.inr (Or.inr rfl))
      have hvb := CV_BE hv hBE (Or.inr (Or.inr rfl))
      obtain ⟨jb, jb2⟩ := cR_BE hBE
      generalize beA I 21 1 = I1 at hBE hvb jb ⊢
      generalize beR R 21 1 = R1 at hBE hvb jb2 hLb ⊢
      have hL := hLb
      refine v_aload_n (pc := 26) dX11_cheapest_26 rfl rfl ?_
      refine v_getH (pc := 27) fg_X11_52_11 dX11_cheapest_27 (li_0 hL) (lr_0_11 hL) ?_
      refine v_bipush (pc := 30) (v := -5) dX11_cheapest_30 (by decide) ?_
      refine v_cv (pc := 32) (v_rS (c_J7_fill_53178 G l (li_42 hLb) (by decide)) rfl kS_X11_185 ⟨Nat.le_of_ble_eq_true rfl, Nat.le_of_ble_eq_true rfl⟩ ⟨Nat.le_of_ble_eq_true rfl, Nat.le_of_ble_eq_true rfl⟩ dX11_cheapest_32 (Nat.le_of_ble_eq_true rfl)) (fun M32 h32 => ?_)
      subst h32
      have o3 : cO I1 (v_to I1 42 (fun _ => -5) 4) := fun a w n => v_to_h (by omega)
      have hv3 := CV_O hvb o3
      have hs3 : CSt (v_to I1 42 (fun _ => -5) 4) none := ⟨v_to_lt (by decide), v_to_lt (by decide), v_to_lt (by decide), v_to_lt (by decide)⟩
      refine v_aload_n (pc := 35) dX11_cheapest_35 rfl rfl ?_
      refine v_iconst (pc := 36) (v := nI 0) dX11_cheapest_36 (by decide) ?_
      refine v_iconst (pc := 37) (v := nI 0) dX11_cheapest_37 (by decide) ?_
      refine v_bipush (pc := 38) (v := -5) dX11_cheapest_38 (by decide) ?_
      refine v_bipush (pc := 40) (v := -5) dX11_cheapest_40 (by decide) ?_
      refine v_cv (pc := 42) (v_rV (c_X11_offer G l hLb (z := none) hv3 hs3 (fun d hd => by cases hd) (by decide)) rfl kV_X11_191 (v_rcO (li_0 hL) rfl (by decide)) ⟨Nat.le_of_ble_eq_true rfl, Nat.le_of_ble_eq_true rfl⟩ ⟨Nat.le_of_ble_eq_true rfl, Nat.le_of_ble_eq_true rfl⟩ dX11_cheapest_42 (Nat.le_of_ble_eq_true rfl)) (fun M42 h42 => ?_)
      obtain ⟨I4, rfl, s4, f4⟩ := h42
      have o4 : cO (v_to I1 42 (fun _ => -5) 4) I4 := fun a w n => f4 a w (by omega) (by omega)
      have hv4 := CV_O hv3 o4
      have j4 := cR_tr jb (cR_tr (cR_O o3) (cR_O o4))
      have hv4n : CV K I4 R1 1 b hm p := CV_R hv (Or.inl rfl) j4 jb2
      rw [ve_many he] at s4
      refine v_aload_n (pc := 45) dX11_cheapest_45 rfl rfl ?_
      refine v_getH (pc := 46) fg_X11_12_11 dX11_cheapest_46 (li_0 hL) (lr_0_0 hL) ?_
      refine v_ci (pc := 49) (v_rV (c_X9_pairCount G l hLb (Or.inl rfl) hv4n.1.1 (by omega)) rfl kV_X11_162 (v_rcO (li_1 hL) rfl (by decide)) ⟨Nat.le_of_ble_eq_true rfl, Nat.le_of_ble_eq_true rfl⟩ ⟨Nat.le_of_ble_eq_true rfl, Nat.le_of_ble_eq_true rfl⟩ dX11_cheapest_49 (Nat.le_of_ble_eq_true rfl)) (fun x49 M49 h49 => ?_)
      obtain ⟨rfl, rfl⟩ := h49
      refine v_istore_n (pc := 52) dX11_cheapest_52 rfl (by decide) rfl ?_
      refine v_iconst (pc := 53) (v := nI 0) dX11_cheapest_53 (by decide) ?_
      refine v_istore_n (pc := 54) dX11_cheapest_54 rfl (by decide) rfl ?_
      have key2 : ∀ i, i ≤ w_pr (b_n b) → ∀ (Ii : Nat → Nat → Int32) (z4 : Option Value), cR I Ii → CV K Ii R1 21 b hm p → (∀ j, j < w_pr (b_n b) → Ii 41 j = nI (w_prc b p j)) → CSt Ii (w_c3 b p (w_pr (b_n b)) i) → v_V G l yX11_cheapest cX11_cheapest 5 (some .int) rm_X11_cheapest (v_Qi G (fun (x : Int32) (M' : v_MM) => x = s_cheap b p (nI w) ∧ ∃ I' R', M' = (K, I', J, R') ∧ Lay K R' ∧ cR I I' ∧ cRR R R')) 0 0 112 [some (.ref 0), some (.int (nI w)), some (.int (nI (w_pr (b_n b)))), some (.int (nI i)), z4] [] (K, Ii, J, R1) := by
        refine v_down (w_pr (b_n b)) (fun i hi ih => ?_)
        intro Ii z4 hI hvi hpr hcs
        refine v_iload_n (pc := 112) dX11_cheapest_112 rfl rfl ?_
        refine v_iload_n (pc := 113) dX11_cheapest_113 rfl rfl ?_
        refine v_icmp_geN (pc := 114) (tgt := 196) ⟨by omega, by omega⟩ dX11_cheapest_114 (by decide) (fun c114 => ?_) (fun c114 => ?_)
        · refine v_aload_n (pc := 196) dX11_cheapest_196 rfl rfl ?_
          refine v_getH (pc := 197) fg_X11_52_11 dX11_cheapest_197 (li_0 hL) (lr_0_11 hL) ?_
          refine v_iload_n (pc := 200) dX11_cheapest_200 rfl rfl ?_
          refine v_ialoadN (pc := 201) dX11_cheapest_201 (li_42 hL) ⟨by omega, by omega⟩ (cs_end (show CSt Ii (w_c3 b p (w_pr (b_n b)) (w_pr (b_n b))) by rw [show i = w_pr (b_n b) by omega] at hcs; exact hcs) hw) ?_
          exact v_iret (pc := 202) dX11_cheapest_202 rfl rfl (Nat.le_of_ble_eq_true rfl) (Nat.le_of_ble_eq_true rfl) ⟨rfl, Ii, R1, rfl, hLb, hI, jb2⟩
        · have hBf := VB_fp hB (show i < w_pr (b_n b) by omega)
          refine v_aload_n (pc := 117) dX11_cheapest_117 rfl rfl ?_
          refine v_getH (pc := 118) fg_X11_21_11 dX11_cheapest_118 (li_0 hL) (lr_0_2 hL) ?_
          refine v_iload_n (pc := 121) dX11_cheapest_121 rfl rfl ?_
          refine v_cv (pc := 122) (v_rV (c_X9_change G l hLb (Or.inr (Or.inr rfl)) (k := i) hvi.1.2.2.2.1 hB (by omega)) rfl kV_X11_181 (v_rcO (li_21 hL) rfl (by decide)) ⟨Nat.le_of_ble_eq_true rfl, Nat.le_of_ble_eq_true rfl⟩ ⟨Nat.le_of_ble_eq_true rfl, Nat.le_of_ble_eq_true rfl⟩ dX11_cheapest_122 (Nat.le_of_ble_eq_true rfl)) (fun M122 h122 => ?_)
          obtain ⟨I5, rfl, k5⟩ := h122
          have hv5 : CV K I5 R1 21 (b_fp b i) hm p := CV_K hvi (Or.inr (Or.inr rfl)) k5 ⟨rfl, rfl, rfl, rfl, rfl⟩ hBf
          refine v_iload_n (pc := 125) dX11_cheapest_125 rfl rfl ?_
          refine v_iconst (pc := 126) (v := nI 1) dX11_cheapest_126 (by decide) ?_
          refine v_iaddN (pc := 127) dX11_cheapest_127 ?_
          refine v_istore (pc := 128) dX11_cheapest_128 (by decide) rfl ?_
          have inr : ∀ j, j ≤ w_pr (b_n b) → i + 1 ≤ j → ∀ Iq : Nat → Nat → Int32, cR I Iq → CV K Iq R1 21 (b_fp b i) hm p → (∀ j, j < w_pr (b_n b) → Iq 41 j = nI (w_prc b p j)) → CSt Iq (w_c2 b p i (w_c3 b p (w_pr (b_n b)) i) j) → v_V G l yX11_cheapest cX11_cheapest 5 (some .int) rm_X11_cheapest (v_Qi G (fun (x : Int32) (M' : v_MM) => x = s_cheap b p (nI w) ∧ ∃ I' R', M' = (K, I', J, R') ∧ Lay K R' ∧ cR I I' ∧ cRR R R')) 0 0 130 [some (.ref 0), some (.int (nI w)), some (.int (nI (w_pr (b_n b)))), some (.int (nI i)), some (.int (nI j))] [] (K, Iq, J, R1) := by
            refine v_down (w_pr (b_n b)) (fun j hj ih2 => ?_)
            intro hij Iq hIq hvq hpq hcq
            refine v_iload (pc := 130) dX11_cheapest_130 rfl ?_
            refine v_iload_n (pc := 132) dX11_cheapest_132 rfl rfl ?_
            refine v_icmp_geN (pc := 133) (tgt := 182) ⟨by omega, by omega⟩ dX11_cheapest_133 (by decide) (fun c133 => ?_) (fun c133 => ?_)
            · refine v_aload_n (pc := 182) dX11_cheapest_182 rfl rfl ?_
              refine v_getH (pc := 183) fg_X11_21_11 dX11_cheapest_183 (li_0 hL) (lr_0_2 hL) ?_
              refine v_iload_n (pc := 186) dX11_cheapest_186 rfl rfl ?_
              refine v_cv (pc := 187) (v_rV (c_X9_change G l hLb (Or.inr (Or.inr rfl)) (k := i) hvq.1.2.2.2.1 hBf (by omega)) rfl kV_X11_181 (v_rcO (li_21 hL) rfl (by decide)) ⟨Nat.le_of_ble_eq_true rfl, Nat.le_of_ble_eq_true rfl⟩ ⟨Nat.le_of_ble_eq_true rfl, Nat.le_of_ble_eq_true rfl⟩ dX11_cheapest_187 (Nat.le_of_ble_eq_true rfl)) (fun M187 h187 => ?_)
              obtain ⟨I9, rfl, k9⟩ := h187
              have k9b := cK_eq k9 (b_fp2 b (show i < 15 by omega))
              have hv9 : CV K I9 R1 21 b hm p := CV_K hvq (Or.inr (Or.inr rfl)) k9b ⟨rfl, rfl, rfl, rfl, rfl⟩ hB
              refine v_iincN (pc := 190) (b := 1) dX11_cheapest_190 rfl (by decide) (by decide) rfl ?_
              refine v_goto (pc := 193) (tgt := 112) dX11_cheapest_193 (by decide) ?_
              have ej : j = w_pr (b_n b) := by omega
              subst ej
              exact ih (i + 1) (by omega) (by omega) I9 _ (cR_tr hIq (cR_K k9)) hv9 (fun q hq => (k9.1 _ _ (by decide)).trans (hpq q hq)) (CSt_o hcq (fun w => k9.1 42 w (by decide)))
            · have hBg := VB_fp hBf (show j < w_pr (b_n (b_fp b i)) from (show j < w_pr (b_n b) by omega))
              have hp1 := w_prc_lt (b := b) hok i
              have hp2 := w_prc_lt (b := b) hok j
              refine v_aload_n (pc := 136) dX11_cheapest_136 rfl rfl ?_
              refine v_getH (pc := 137) fg_X11_21_11 dX11_cheapest_137 (li_0 hL) (lr_0_2 hL) ?_
              refine v_iload (pc := 140) dX11_cheapest_140 rfl ?_
              refine v_cv (pc := 142) (v_rV (c_X9_change G l hLb (Or.inr (Or.inr rfl)) (k := j) hvq.1.2.2.2.1 hBf (by omega)) rfl kV_X11_181 (v_rcO (li_21 hL) rfl (by decide)) ⟨Nat.le_of_ble_eq_true rfl, Nat.le_of_ble_eq_true rfl⟩ ⟨Nat.le_of_ble_eq_true rfl, Nat.le_of_ble_eq_true rfl⟩ dX11_cheapest_142 (Nat.le_of_ble_eq_true rfl)) (fun M142 h142 => ?_)
              obtain ⟨I6, rfl, k6⟩ := h142
              have hv6 : CV K I6 R1 21 (b_fp (b_fp b i) j) hm p := CV_K hvq (Or.inr (Or.inr rfl)) k6 ⟨rfl, rfl, rfl, rfl, rfl⟩ hBg
              have h6p : ∀ j, j < w_pr (b_n b) → I6 41 j = nI (w_prc b p j) := fun j hj => (k6.1 _ _ (by decide)).trans (hpq j hj)
              have hs6 := CSt_o hcq (fun w => k6.1 42 w (by decide))
              refine v_aload_n (pc := 145) dX11_cheapest_145 rfl rfl ?_
              refine v_aload_n (pc := 146) dX11_cheapest_146 rfl rfl ?_
              refine v_getH (pc := 147) fg_X11_48_11 dX11_cheapest_147 (li_0 hL) (lr_0_10 hL) ?_
              refine v_iload_n (pc := 150) dX11_cheapest_150 rfl rfl ?_
              refine v_ialoadN (pc := 151) dX11_cheapest_151 (li_41 hL) ⟨by omega, by omega⟩ (h6p i (by omega)) ?_
              refine v_aload_n (pc := 152) dX11_cheapest_152 rfl rfl ?_
              refine v_getH (pc := 153) fg_X11_48_11 dX11_cheapest_153 (li_0 hL) (lr_0_10 hL) ?_
              refine v_iload (pc := 156) dX11_cheapest_156 rfl ?_
              refine v_ialoadN (pc := 158) dX11_cheapest_158 (li_41 hL) ⟨by omega, by omega⟩ (h6p j (by omega)) ?_
              refine v_iaddN (pc := 159) dX11_cheapest_159 ?_
              refine v_iconst (pc := 160) (v := nI 2) dX11_cheapest_160 (by decide) ?_
              refine v_iload_n (pc := 161) dX11_cheapest_161 rfl rfl ?_
              refine v_iload (pc := 162) dX11_cheapest_162 rfl ?_
              refine v_cv (pc := 164) (v_rV (c_X11_offer G l hLb (z := w_c2 b p i (w_c3 b p (w_pr (b_n b)) i) j) hv6 hs6 (CB_2 hok (CB_3 hok _ _) j) (by omega)) rfl kV_X11_191 (v_rcO (li_0 hL) rfl (by decide)) ⟨Nat.le_of_ble_eq_true rfl, Nat.le_of_ble_eq_true rfl⟩ ⟨Nat.le_of_ble_eq_true rfl, Nat.le_of_ble_eq_true rfl⟩ dX11_cheapest_164 (Nat.le_of_ble_eq_true rfl)) (fun M164 h164 => ?_)
              obtain ⟨I7, rfl, s7, f7⟩ := h164
              have o7 : cO I6 I7 := fun a w n => f7 a w (by omega) (by omega)
              have hv7 := CV_O hv6 o7
              rw [ve_many (ve_now hBg (HF_n hf rfl))] at s7
              refine v_aload_n (pc := 167) dX11_cheapest_167 rfl rfl ?_
              refine v_getH (pc := 168) fg_X11_21_11 dX11_cheapest_168 (li_0 hL) (lr_0_2 hL) ?_
              refine v_iload (pc := 171) dX11_cheapest_171 rfl ?_
              refine v_cv (pc := 173) (v_rV (c_X9_change G l hLb (Or.inr (Or.inr rfl)) (k := j) hv7.1.2.2.2.1 hBg (by omega)) rfl kV_X11_181 (v_rcO (li_21 hL) rfl (by decide)) ⟨Nat.le_of_ble_eq_true rfl, Nat.le_of_ble_eq_true rfl⟩ ⟨Nat.le_of_ble_eq_true rfl, Nat.le_of_ble_eq_true rfl⟩ dX11_cheapest_173 (Nat.le_of_ble_eq_true rfl)) (fun M173 h173 => ?_)
              obtain ⟨I8, rfl, k8⟩ := h173
              have k8b := cK_eq k8 (b_fp2 (b_fp b i) (show j < 15 by omega))
              have hv8 : CV K I8 R1 21 (b_fp b i) hm p := CV_K hv7 (Or.inr (Or.inr rfl)) k8b ⟨rfl, rfl, rfl, rfl, rfl⟩ hBf
              have hI8 := cR_tr hIq (cR_tr (cR_K k6) (cR_tr (cR_O o7) (cR_K k8)))
              have ec : w_c2 b p i (w_c3 b p (w_pr (b_n b)) i) (j + 1) = w_tk (decide (w_many (vw (b_fp (b_fp b i) j) 9 p) = 0)) (w_prc b p i + w_prc b p j, 2, nI i, nI j) (w_c2 b p i (w_c3 b p (w_pr (b_n b)) i) j) := if_pos (by omega)
              refine v_iincN (pc := 176) (b := 1) dX11_cheapest_176 rfl (by decide) (by decide) rfl ?_
              refine v_goto (pc := 179) (tgt := 130) dX11_cheapest_179 (by decide) ?_
              exact ih2 (j + 1) (by omega) (by omega) (by omega) I8 hI8 hv8 (fun q hq => (k8.1 _ _ (by decide)).trans ((f7 _ _ (by decide) (by decide)).trans (h6p q hq))) (CSt_o (by rw [ec]; exact s7) (fun w => k8.1 42 w (by decide)))
          exact inr (i + 1) (by omega) (Nat.le_refl _) I5 (cR_tr hI (cR_K k5)) hv5 (fun j hj => (k5.1 _ _ (by decide)).trans (hpr j hj)) (CSt_o (by rw [w_c2_0 _ (Nat.le_refl _)]; exact hcs) (fun w => k5.1 _ _ (by decide)))
      have key1 : ∀ i, i ≤ w_pr (b_n b) → ∀ (Ii : Nat → Nat → Int32) (z4 : Option Value), cR I Ii → CV K Ii R1 21 b hm p → (∀ j, j < i → Ii 41 j = nI (w_prc b p j)) → CSt Ii (w_c1 b p i) → v_V G l yX11_cheapest cX11_cheapest 5 (some .int) rm_X11_cheapest (v_Qi G (fun (x : Int32) (M' : v_MM) => x = s_cheap b p (nI w) ∧ ∃ I' R', M' = (K, I', J, R') ∧ Lay K R' ∧ cR I I' ∧ cRR R R')) 0 0 55 [some (.ref 0), some (.int (nI w)), some (.int (nI (w_pr (b_n b)))), some (.int (nI i)), z4] [] (K, Ii, J, R1) := by
        refine v_down (w_pr (b_n b)) (fun i hi ih => ?_)
        intro Ii z4 hI hvi hpr hcs
        refine v_iload_n (pc := 55) dX11_cheapest_55 rfl rfl ?_
        refine v_iload_n (pc := 56) dX11_cheapest_56 rfl rfl ?_
        refine v_icmp_geN (pc := 57) (tgt := 110) ⟨by omega, by omega⟩ dX11_cheapest_57 (by decide) (fun c57 => ?_) (fun c57 => ?_)
        · refine v_iconst (pc := 110) (v := nI 0) dX11_cheapest_110 (by decide) ?_
          refine v_istore_n (pc := 111) dX11_cheapest_111 rfl (by decide) rfl ?_
          have ej : i = w_pr (b_n b) := by omega
          subst ej
          exact key2 0 (Nat.zero_le _) Ii _ hI hvi hpr hcs
        · have hBf := VB_fp hB (show i < w_pr (b_n b) by omega)
          have hvn : CV K Ii R1 1 b hm p := CV_R hv (Or.inl rfl) hI jb2
          obtain ⟨hl1, hl2⟩ := ve_lg hn6 (show i < w_pr (b_n b) by omega)
          have hp1 := w_prc_lt (b := b) hok i
          refine v_aload_n (pc := 60) dX11_cheapest_60 rfl rfl ?_
          refine v_getH (pc := 61) fg_X11_48_11 dX11_cheapest_61 (li_0 hL) (lr_0_10 hL) ?_
          refine v_iload_n (pc := 64) dX11_cheapest_64 rfl rfl ?_
          refine v_aload_n (pc := 65) dX11_cheapest_65 rfl rfl ?_
          refine v_getH (pc := 66) fg_X11_12_11 dX11_cheapest_66 (li_0 hL) (lr_0_0 hL) ?_
          refine v_iload_n (pc := 69) dX11_cheapest_69 rfl rfl ?_
          refine v_ci (pc := 70) (v_rV (c_X9_priceOf G l hLb (Or.inl rfl) hvn (show i < 15 by omega)) rfl kV_X11_131 (v_rcO (li_1 hL) rfl (by decide)) ⟨Nat.le_of_ble_eq_true rfl, Nat.le_of_ble_eq_true rfl⟩ ⟨Nat.le_of_ble_eq_true rfl, Nat.le_of_ble_eq_true rfl⟩ dX11_cheapest_70 (Nat.le_of_ble_eq_true rfl)) (fun x70 M70 h70 => ?_)
          obtain ⟨rfl, I2, rfl, f2⟩ := h70
          rw [show w_price (c_vw b hm p) (w_l i) (w_g i) = w_prc b p i from ve_price he (by omega) (by omega)]
          have o2 : cO Ii (v_u I2 41 i (nI (w_prc b p i))) := fun a w n => (v_u_h (by omega)).trans (f2 a w (by omega))
          have hv2 := CV_O hvi o2
          have h2p : ∀ j, j < i + 1 → (v_u I2 41 i (nI (w_prc b p i))) 41 j = nI (w_prc b p j) := fun j hj => by
            rcases Nat.lt_succ_iff_lt_or_eq.mp hj with z | z
            · rw [v_u_k (by omega), f2 _ _ (by decide)]; exact hpr j z
            · subst z; exact v_u_same
          have hs2 := CSt_o hcs (I' := v_u I2 41 i (nI (w_prc b p i))) (fun w => (v_u_h (by decide)).trans (f2 42 w (by decide)))
          generalize hJ2 : v_u I2 41 i (nI (w_prc b p i)) = J2 at o2 hv2 h2p hs2
          refine v_iastoreN (pc := 73) dX11_cheapest_73 (li_41 hL) ⟨by omega, by omega⟩ ?_
          rw [hJ2]
          refine v_aload_n (pc := 74) dX11_cheapest_74 rfl rfl ?_
          refine v_getH (pc := 75) fg_X11_21_11 dX11_cheapest_75 (li_0 hL) (lr_0_2 hL) ?_
          refine v_iload_n (pc := 78) dX11_cheapest_78 rfl rfl ?_
          refine v_cv (pc := 79) (v_rV (c_X9_change G l hLb (Or.inr (Or.inr rfl)) (k := i) hv2.1.2.2.2.1 hB (by omega)) rfl kV_X11_181 (v_rcO (li_21 hL) rfl (by decide)) ⟨Nat.le_of_ble_eq_true rfl, Nat.le_of_ble_eq_true rfl⟩ ⟨Nat.le_of_ble_eq_true rfl, Nat.le_of_ble_eq_true rfl⟩ dX11_cheapest_79 (Nat.le_of_ble_eq_true rfl)) (fun M79 h79 => ?_)
          obtain ⟨I6, rfl, k6⟩ := h79
          have hv6 : CV K I6 R1 21 (b_fp b i) hm p := CV_K hv2 (Or.inr (Or.inr rfl)) k6 ⟨rfl, rfl, rfl, rfl, rfl⟩ hBf
          have h6p : ∀ j, j < i + 1 → I6 41 j = nI (w_prc b p j) := fun j hj => (k6.1 _ _ (by decide)).trans (h2p j hj)
          have hs6 := CSt_o hs2 (fun w => k6.1 42 w (by decide))
          refine v_aload_n (pc := 82) dX11_cheapest_82 rfl rfl ?_
          refine v_aload_n (pc := 83) dX11_cheapest_83 rfl rfl ?_
          refine v_getH (pc := 84) fg_X11_48_11 dX11_cheapest_84 (li_0 hL) (lr_0_10 hL) ?_
          refine v_iload_n (pc := 87) dX11_cheapest_87 rfl rfl ?_
          refine v_ialoadN (pc := 88) dX11_cheapest_88 (li_41 hL) ⟨by omega, by omega⟩ (h6p i (by omega)) ?_
          refine v_iconst (pc := 89) (v := nI 1) dX11_cheapest_89 (by decide) ?_
          refine v_iload_n (pc := 90) dX11_cheapest_90 rfl rfl ?_
          refine v_bipush (pc := 91) (v := -5) dX11_cheapest_91 (by decide) ?_
          refine v_cv (pc := 93) (v_rV (c_X11_offer G l hLb (z := w_c1 b p i) hv6 hs6 (CB_up (CB_1 hok i) (by decide)) (by omega)) rfl kV_X11_191 (v_rcO (li_0 hL) rfl (by decide)) ⟨Nat.le_of_ble_eq_true rfl, Nat.le_of_ble_eq_true rfl⟩ ⟨Nat.le_of_ble_eq_true rfl, Nat.le_of_ble_eq_true rfl⟩ dX11_cheapest_93 (Nat.le_of_ble_eq_true rfl)) (fun M93 h93 => ?_)
          obtain ⟨I7, rfl, s7, f7⟩ := h93
          have o7 : cO I6 I7 := fun a w n => f7 a w (by omega) (by omega)
          have hv7 := CV_O hv6 o7
          rw [ve_many (ve_now hBf (HF_n hf rfl))] at s7
          refine v_aload_n (pc := 96) dX11_cheapest_96 rfl rfl ?_
          refine v_getH (pc := 97) fg_X11_21_11 dX11_cheapest_97 (li_0 hL) (lr_0_2 hL) ?_
          refine v_iload_n (pc := 100) dX11_cheapest_100 rfl rfl ?_
          refine v_cv (pc := 101) (v_rV (c_X9_change G l hLb (Or.inr (Or.inr rfl)) (k := i) hv7.1.2.2.2.1 hBf (by omega)) rfl kV_X11_181 (v_rcO (li_21 hL) rfl (by decide)) ⟨Nat.le_of_ble_eq_true rfl, Nat.le_of_ble_eq_true rfl⟩ ⟨Nat.le_of_ble_eq_true rfl, Nat.le_of_ble_eq_true rfl⟩ dX11_cheapest_101 (Nat.le_of_ble_eq_true rfl)) (fun M101 h101 => ?_)
          obtain ⟨I8, rfl, k8⟩ := h101
          have k8b := cK_eq k8 (b_fp2 b (show i < 15 by omega))
          have hv8 : CV K I8 R1 21 b hm p := CV_K hv7 (Or.inr (Or.inr rfl)) k8b ⟨rfl, rfl, rfl, rfl, rfl⟩ hB
          have hI8 := cR_tr hI (cR_tr (cR_O o2) (cR_tr (cR_K k6) (cR_tr (cR_O o7) (cR_K k8))))
          refine v_iincN (pc := 104) (b := 1) dX11_cheapest_104 rfl (by decide) (by decide) rfl ?_
          refine v_goto (pc := 107) (tgt := 55) dX11_cheapest_107 (by decide) ?_
          exact ih (i + 1) (by omega) (by omega) I8 _ hI8 hv8 (fun q hq => (k8.1 _ _ (by decide)).trans ((f7 _ _ (by decide) (by decide)).trans (h6p q hq))) (CSt_o s7 (fun w => k8.1 42 w (by decide)))
      exact key1 0 (Nat.zero_le _) I4 none j4 hv4 (fun j hj => absurd hj (by omega)) s4
    · have e4 : x_nat ww 4 = none := x_nat_n (fun z => ((v_ltI (by decide)).mpr z).2 (Int32.not_lt.mp c10))
      refine v_iconst (pc := 13) (v := -1) dX11_cheapest_13 (by decide) ?_
      exact v_iret (pc := 14) dX11_cheapest_14 rfl rfl (Nat.le_of_ble_eq_true rfl) (Nat.le_of_ble_eq_true rfl) ⟨by simp only [s_cheap, e4], I, R, rfl, hL, cR_rf, cRR_rf⟩
