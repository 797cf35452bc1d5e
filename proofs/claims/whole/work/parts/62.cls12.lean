/-! THE CLASS: without whom; plain laws -/
def w_o2 (z : Option Nat × Nat) : Int32 := match z.1 with
  | some _ => nI z.2
  | none => -5
theorem CV_lv {K : Nat × v_TY} {I I' : Nat → Nat → Int32} {R : Nat → Nat → Option Nat} {hm g : Nat} {b : BS} {p : CLS} (hv : CV K I R 21 b hm p) (hg : g < b_n b) (hf : HF b hm) (e : I' = v_to (v_u I 21 1 (nI (hm &&& (127 - 2 ^ g)))) (21 + 2) (fun j => nI (if j = g then 0 else b_m b j &&& (hm &&& (127 - 2 ^ g)))) (b_n b)) : CV K I' R 21 (b_lv b g) (hm &&& (127 - 2 ^ g)) p := by
  subst e
  have hB := hv.2.1
  have hn := hB.1
  have hbits : ∀ j, b_m b j &&& (hm &&& (127 - 2 ^ g)) = b_m b j &&& (127 - 2 ^ g) := fun j => by
    apply Nat.eq_of_testBit_eq
    intro k
    rw [Nat.testBit_and, Nat.testBit_and, Nat.testBit_and, hf.2]
    by_cases hk : k < b_n b
    · rw [decide_eq_true hk, Bool.true_and]
    · rw [hB.2.2.2.2.2.2.2.2 j k (by omega), Bool.false_and, Bool.false_and]
  refine ⟨⟨(v_to_h (by decide)).trans ((v_u_k (by decide)).trans hv.1.1), (v_to_h (by decide)).trans v_u_same, (v_to_h (by decide)).trans ((v_u_k (by decide)).trans hv.1.2.2.1), fun i hi => ?_, fun j hj => (v_to_h (by decide)).trans ((v_u_h (by decide)).trans (hv.1.2.2.2.2 j hj))⟩, VB_lv hB (by omega), ⟨Nat.lt_of_le_of_lt Nat.and_le_left hf.1, fun j hj => by rw [Nat.testBit_and, hf.2] at hj; simp at hj; exact hj.1⟩, fun i hi => ?_, ?_⟩
  · show _ = nI (if i = g then 0 else b_m b i &&& (127 - 2 ^ g))
    by_cases hin : i < b_n b
    · rw [v_to_lt hin]
      by_cases e : i = g
      · rw [if_pos e, if_pos e]
      · rw [if_neg e, if_neg e, hbits]
    · rw [v_to_ge (by omega), v_u_h (by decide), hv.1.2.2.2.1 i hi, if_neg (by omega)]
      have : b_m b i = 0 := VB_mz hB (by omega)
      rw [this, Nat.zero_and]
  · obtain ⟨a, g1, g2⟩ := hv.2.2.2.1 i hi
    exact ⟨a, g1, PS_o g2 (fun z => (v_to_h (by have := g2.1; omega)).trans (v_u_h (by have := g2.1; omega)))⟩
  · exact TN_o hv.2.2.2.2 (fun a z l1 _ => (v_to_h (by omega)).trans (v_u_h (by omega))) (fun a z l => rfl)
theorem cR_lv {I : Nat → Nat → Int32} {x : Int32} {f : Nat → Int32} {n : Nat} : cR I (v_to (v_u I 21 1 x) (21 + 2) f n) := fun a z n => (v_to_h (fun e => n (Or.inr (Or.inl (by omega))))).trans (v_u_h (fun e => n (Or.inr (Or.inl (by omega)))))
theorem CPA_R {K : Nat × v_TY} {R R' : Nat → Nat → Option Nat} {h : Nat} (hA : CPA K R h) (hh : h = 1 ∨ h = 11) (j : cRR R R') : CPA K R' h := fun i hi a ha => hA i hi a ((j _ _ (by omega) (by omega)).symm.trans ha)
abbrev rm_X11_goes : Room := { frames := 13, cells := 0, slots := 0, locals := 612 }
set_option maxRecDepth 20000 in
theorem c_X11_goes (G : v_G) (l : Launch) {K : Nat × v_TY} {I : Nat → Nat → Int32} {J : Nat → Nat → Int64} {R : Nat → Nat → Option Nat} (hL : Lay K R) {ww : Int32} {b : BS} {hm : Nat} {p : CLS} (hv : CV K I R 1 b hm p) (hf : HF b hm) (hA : CPA K R 1) : v_M G l yX11_goes cX11_goes 6 (some .int) rm_X11_goes [.ref 0, .int ww] (K, I, J, R) (v_Qi G (fun (x : Int32) (M' : v_MM) => x = s_goes b p ww ∧ ∃ I' R', M' = (K, I', J, R') ∧ Lay K R' ∧ cR I I' ∧ cRR R R')) := by
  refine v_of [some (.ref 0), some (.int ww), none, none, none, none] (by decide) (Nat.le_of_ble_eq_true rfl) (Nat.le_of_ble_eq_true rfl) rfl ?_
  have hB := hv.2.1
  have hn6 := hB.1
  have h15 := pr15 hn6
  have he := ve_now (p := p) hB hf
  refine v_iload_n (pc := 0) dX11_goes_0 rfl rfl ?_
  refine v_if_lt (pc := 1) (tgt := 9) dX11_goes_1 (by decide) (fun c1 => ?_) (fun c1 => ?_)
  · have e2 := x_n2 (Or.inl c1)
    refine v_iconst (pc := 9) (v := -1) dX11_goes_9 (by decide) ?_
    exact v_iret (pc := 10) dX11_goes_10 rfl rfl (Nat.le_of_ble_eq_true rfl) (Nat.le_of_ble_eq_true rfl) ⟨by simp only [s_goes, s_best, e2], I, R, rfl, hL, cR_rf, cRR_rf⟩
  · refine v_iload_n (pc := 4) dX11_goes_4 rfl rfl ?_
    refine v_iconst (pc := 5) (v := nI 1) dX11_goes_5 (by decide) ?_
    refine v_icmp_le (pc := 6) (tgt := 11) dX11_goes_6 (by decide) (fun c6 => ?_) (fun c6 => ?_)
    · have hw2 := x_hw c1 c6
      refine v_bipush (pc := 11) (v := -5) dX11_goes_11 (by decide) ?_
      refine v_istore_n (pc := 13) dX11_goes_13 rfl (by decide) rfl ?_
      refine v_bipush (pc := 14) (v := -5) dX11_goes_14 (by decide) ?_
      refine v_istore_n (pc := 16) dX11_goes_16 rfl (by decide) rfl ?_
      refine v_iconst (pc := 17) (v := nI 0) dX11_goes_17 (by decide) ?_
      refine v_istore (pc := 18) dX11_goes_18 (by decide) rfl ?_
      have key : ∀ i, i ≤ b_n b → ∀ (Ii : Nat → Nat → Int32) (Ri : Nat → Nat → Option Nat) (z5 : Option Value), cR I Ii → cRR R Ri → Lay K Ri → v_V G l yX11_goes cX11_goes 6 (some .int) rm_X11_goes (v_Qi G (fun (x : Int32) (M' : v_MM) => x = s_goes b p ww ∧ ∃ I' R', M' = (K, I', J, R') ∧ Lay K R' ∧ cR I I' ∧ cRR R R')) 0 0 20 [some (.ref 0), some (.int ww), some (.int (w_o (w_fst (fun g => w_many (vw b g p)) (none, 99) i).1)), some (.int (w_o2 (w_fst (fun g => w_many (vw b g p)) (none, 99) i))), some (.int (nI i)), z5] [] (K, Ii, J, Ri) := by
        refine v_down (b_n b) (fun i hi ih => ?_)
        intro Ii Ri z5 hI hRi hL
        have hvn : CV K Ii Ri 1 b hm p := CV_R hv (Or.inl rfl) hI hRi
        have hAn := CPA_R hA (Or.inl rfl) hRi
        refine v_iload (pc := 20) dX11_goes_20 rfl ?_
        refine v_aload_n (pc := 22) dX11_goes_22 rfl rfl ?_
        refine v_getH (pc := 23) fg_X11_12_11 dX11_goes_23 (li_0 hL) (lr_0_0 hL) ?_
        refine v_getV (pc := 26) fg_X11_56_9 dX11_goes_26 (li_1 hL) hvn.1.1 ?_
        refine v_icmp_geN (pc := 29) (tgt := 85) ⟨by omega, by omega⟩ dX11_goes_29 (by decide) (fun c29 => ?_) (fun c29 => ?_)
        · have ei : i = b_n b := by omega
          subst ei
          have hkb := w_fst_k (fun g => w_many (vw b g p)) (none, 99) 6 (fun k z => by cases z) (b_n b) (by omega)
          show v_V G l _ _ _ _ _ (v_Qi G (fun (x : Int32) (M' : v_MM) => x = s_best (w_fst (fun g => w_many (vw b g p)) (none, 99) (b_n b)) ww ∧ _)) _ _ _ _ _ _
          generalize (w_fst (fun g => w_many (vw b g p)) (none, 99) (b_n b)) = z at hkb ⊢
          obtain ⟨o, z⟩ := z
          rcases hw2 with rfl | rfl <;> rcases o with - | k
          · refine v_iload_n (pc := 85) dX11_goes_85 rfl rfl ?_
            refine v_if_neN (pc := 86) (tgt := 93) (by omega) dX11_goes_86 (by decide) (fun c86 => ?_) (fun c86 => ?_)
            · refine v_iload_n (pc := 93) dX11_goes_93 rfl rfl ?_
              exact v_iret (pc := 94) dX11_goes_94 rfl rfl (Nat.le_of_ble_eq_true rfl) (Nat.le_of_ble_eq_true rfl) ⟨by first | omega | rfl, Ii, Ri, rfl, hL, hI, hRi⟩
            · refine v_iload_n (pc := 89) dX11_goes_89 rfl rfl ?_
              refine v_goto (pc := 90) (tgt := 94) dX11_goes_90 (by decide) ?_
              exact v_iret (pc := 94) dX11_goes_94 rfl rfl (Nat.le_of_ble_eq_true rfl) (Nat.le_of_ble_eq_true rfl) ⟨by first | omega | rfl, Ii, Ri, rfl, hL, hI, hRi⟩
          · have := hkb k rfl
            refine v_iload_n (pc := 85) dX11_goes_85 rfl rfl ?_
            refine v_if_neN (pc := 86) (tgt := 93) (by omega) dX11_goes_86 (by decide) (fun c86 => ?_) (fun c86 => ?_)
            · refine v_iload_n (pc := 93) dX11_goes_93 rfl rfl ?_
              exact v_iret (pc := 94) dX11_goes_94 rfl rfl (Nat.le_of_ble_eq_true rfl) (Nat.le_of_ble_eq_true rfl) ⟨by first | omega | rfl, Ii, Ri, rfl, hL, hI, hRi⟩
            · refine v_iload_n (pc := 89) dX11_goes_89 rfl rfl ?_
              refine v_goto (pc := 90) (tgt := 94) dX11_goes_90 (by decide) ?_
              exact v_iret (pc := 94) dX11_goes_94 rfl rfl (Nat.le_of_ble_eq_true rfl) (Nat.le_of_ble_eq_true rfl) ⟨by first | omega | rfl, Ii, Ri, rfl, hL, hI, hRi⟩
          · refine v_iload_n (pc := 85) dX11_goes_85 rfl rfl ?_
            refine v_if_neN (pc := 86) (tgt := 93) (by omega) dX11_goes_86 (by decide) (fun c86 => ?_) (fun c86 => ?_)
            · refine v_iload_n (pc := 93) dX11_goes_93 rfl rfl ?_
              exact v_iret (pc := 94) dX11_goes_94 rfl rfl (Nat.le_of_ble_eq_true rfl) (Nat.le_of_ble_eq_true rfl) ⟨by first | omega | rfl, Ii, Ri, rfl, hL, hI, hRi⟩
            · refine v_iload_n (pc := 89) dX11_goes_89 rfl rfl ?_
              refine v_goto (pc := 90) (tgt := 94) dX11_goes_90 (by decide) ?_
              exact v_iret (pc := 94) dX11_goes_94 rfl rfl (Nat.le_of_ble_eq_true rfl) (Nat.le_of_ble_eq_true rfl) ⟨by first | omega | rfl, Ii, Ri, rfl, hL, hI, hRi⟩
          · have := hkb k rfl
            refine v_iload_n (pc := 85) dX11_goes_85 rfl rfl ?_
            refine v_if_neN (pc := 86) (tgt := 93) (by omega) dX11_goes_86 (by decide) (fun c86 => ?_) (fun c86 => ?_)
            · refine v_iload_n (pc := 93) dX11_goes_93 rfl rfl ?_
              exact v_iret (pc := 94) dX11_goes_94 rfl rfl (Nat.le_of_ble_eq_true rfl) (Nat.le_of_ble_eq_true rfl) ⟨by first | omega | rfl, Ii, Ri, rfl, hL, hI, hRi⟩
            · refine v_iload_n (pc := 89) dX11_goes_89 rfl rfl ?_
              refine v_goto (pc := 90) (tgt := 94) dX11_goes_90 (by decide) ?_
              exact v_iret (pc := 94) dX11_goes_94 rfl rfl (Nat.le_of_ble_eq_true rfl) (Nat.le_of_ble_eq_true rfl) ⟨by first | omega | rfl, Ii, Ri, rfl, hL, hI, hRi⟩
        · refine v_aload_n (pc := 32) dX11_goes_32 rfl rfl ?_
          refine v_getH (pc := 33) fg_X11_21_11 dX11_goes_33 (li_0 hL) (lr_0_2 hL) ?_
          refine v_aload_n (pc := 36) dX11_goes_36 rfl rfl ?_
          refine v_getH (pc := 37) fg_X11_12_11 dX11_goes_37 (li_0 hL) (lr_0_0 hL) ?_
          refine v_cv (pc := 40) (v_rV (c_X9_become G l hL (Or.inr (Or.inr rfl)) (Or.inl rfl) (by decide) hAn) rfl kV_X11_177 (v_rcO (li_21 hL) rfl (by decide)) ⟨Nat.le_of_ble_eq_true rfl, Nat.le_of_ble_eq_true rfl⟩ ⟨Nat.le_of_ble_eq_true rfl, Nat.le_of_ble_eq_true rfl⟩ dX11_goes_40 (Nat.le_of_ble_eq_true rfl)) (fun M40 h40 => ?_)
          subst h40
          have hBE := BE_of (I := Ii) (R := Ri) (h := 21) (g := 1) (Or.inr (Or.inr rfl)) (Or.inl rfl) (by decide)
          have hLb := Lay_be (g := 1) hL (Or.inr (Or.inr rfl))
          have hvb := CV_BE hvn hBE (Or.inr (Or.inr rfl))
          obtain ⟨jb, jb2⟩ := cR_BE hBE
          generalize beA Ii 21 1 = I1 at hBE hvb jb ⊢
          generalize beR Ri 21 1 = R1 at hBE hvb jb2 hLb ⊢
          have hL := hLb
          refine v_aload_n (pc := 43) dX11_goes_43 rfl rfl ?_
          refine v_getH (pc := 44) fg_X11_21_11 dX11_goes_44 (li_0 hL) (lr_0_2 hL) ?_
          refine v_iload (pc := 47) dX11_goes_47 rfl ?_
          refine v_cv (pc := 49) (v_rV (c_X9_leave G l hLb (Or.inr (Or.inr rfl)) (km := b_m b) hvb.1.1 hn6 hvb.1.2.1 hf.1 hvb.1.2.2.2.1 (by omega)) rfl kV_X11_195 (v_rcO (li_21 hL) rfl (by decide)) ⟨Nat.le_of_ble_eq_true rfl, Nat.le_of_ble_eq_true rfl⟩ ⟨Nat.le_of_ble_eq_true rfl, Nat.le_of_ble_eq_true rfl⟩ dX11_goes_49 (Nat.le_of_ble_eq_true rfl)) (fun M49 h49 => ?_)
          have hvl := CV_lv hvb (show i < b_n b by omega) hf (congrArg (fun m => m.2.1) h49)
          have jl : cR I1 M49.2.1 := by rw [h49]; exact cR_lv
          obtain ⟨I4, hI4⟩ : ∃ z, z = M49.2.1 := ⟨_, rfl⟩
          rw [← hI4] at hvl jl
          have em : M49 = (K, I4, J, R1) := by rw [hI4, h49]
          clear h49
          subst em
          clear hI4
          refine v_aload_n (pc := 52) dX11_goes_52 rfl rfl ?_
          refine v_getH (pc := 53) fg_X11_21_11 dX11_goes_53 (li_0 hL) (lr_0_2 hL) ?_
          refine v_ci (pc := 56) (v_rV (c_X9_howManyAmiss G l hLb (Or.inr (Or.inr rfl)) hvl) rfl kV_X11_168 (v_rcO (li_21 hL) rfl (by decide)) ⟨Nat.le_of_ble_eq_true rfl, Nat.le_of_ble_eq_true rfl⟩ ⟨Nat.le_of_ble_eq_true rfl, Nat.le_of_ble_eq_true rfl⟩ dX11_goes_56 (Nat.le_of_ble_eq_true rfl)) (fun x56 M56 h56 => ?_)
          obtain ⟨rfl, I6, rfl, f6⟩ := h56
          rw [ve_many (ve_lv hB hf (show i < b_n b by omega))]
          have hI6 := cR_tr hI (cR_tr jb (cR_tr jl (cR_F2 f6)))
          have hR6 := cRR_tr hRi jb2
          have hmt := w_many_lt hB i p
          have hst : ∀ o, (w_fst (fun g => w_many (vw b g p)) (none, 99) i).1 = o → o = none → (w_fst (fun g => w_many (vw b g p)) (none, 99) i).2 = 99 := w_goes_n (fun g => w_many (vw b g p)) i
          have hlt := w_fst_lt (fun g => w_many (vw b g p)) (none, 99) 100 (by decide) i (fun k hk => by have := w_many_lt hB k p; show w_many _ < 100; omega)
          have hkb := w_fst_k (fun g => w_many (vw b g p)) (none, 99) 6 (fun k z => by cases z) i (by omega)
          have ee : (w_fst (fun g => w_many (vw b g p)) (none, 99) (i + 1)) = if w_many (vw b i p) < (w_fst (fun g => w_many (vw b g p)) (none, 99) i).2 then (some i, w_many (vw b i p)) else (w_fst (fun g => w_many (vw b g p)) (none, 99) i) := rfl
          have goon := fun z => ih (i + 1) (by omega) (by omega) I6 R1 z hI6 hR6 hLb
          rw [ee] at goon
          generalize (w_fst (fun g => w_many (vw b g p)) (none, 99) i) = z at hst hlt hkb goon ⊢
          obtain ⟨o, q⟩ := z
          refine v_istore (pc := 59) dX11_goes_59 (by decide) rfl ?_
          rcases o with - | k
          · have q99 := hst none rfl rfl
            dsimp only at q99 goon ⊢
            subst q99
            rw [if_pos (by omega)] at goon
            refine v_iload_n (pc := 61) dX11_goes_61 rfl rfl ?_
            refine v_bipush (pc := 62) (v := -5) dX11_goes_62 (by decide) ?_
            refine v_icmp_eq (pc := 64) (tgt := 73) dX11_goes_64 (by decide) (fun c64 => ?_) (fun c64 => ?_)
            · refine v_iload (pc := 73) dX11_goes_73 rfl ?_
              refine v_istore_n (pc := 75) dX11_goes_75 rfl (by decide) rfl ?_
              refine v_iload (pc := 76) dX11_goes_76 rfl ?_
              refine v_istore_n (pc := 78) dX11_goes_78 rfl (by decide) rfl ?_
              refine v_iincN (pc := 79) (b := 1) dX11_goes_79 rfl (by decide) (by decide) rfl ?_
              refine v_goto (pc := 82) (tgt := 20) dX11_goes_82 (by decide) ?_
              exact goon _
            · exact absurd rfl c64
          · have := hkb k rfl
            dsimp only at goon hlt ⊢
            refine v_iload_n (pc := 61) dX11_goes_61 rfl rfl ?_
            refine v_bipush (pc := 62) (v := -5) dX11_goes_62 (by decide) ?_
            refine v_icmp_eq (pc := 64) (tgt := 73) dX11_goes_64 (by decide) (fun c64 => ?_) (fun c64 => ?_)
            · exact absurd c64 (nI_m5 _)
            · refine v_iload (pc := 67) dX11_goes_67 rfl ?_
              refine v_iload_n (pc := 69) dX11_goes_69 rfl rfl ?_
              refine v_icmp_geN (pc := 70) (tgt := 79) ⟨by omega, by omega⟩ dX11_goes_70 (by decide) (fun c70 => ?_) (fun c70 => ?_)
              · refine v_iincN (pc := 79) (b := 1) dX11_goes_79 rfl (by decide) (by decide) rfl ?_
                refine v_goto (pc := 82) (tgt := 20) dX11_goes_82 (by decide) ?_
                first
                  | (rw [if_pos (show w_many (vw b i p) < q by omega)] at goon; exact goon _)
                  | (rw [if_neg (show ¬ w_many (vw b i p) < q by omega)] at goon; exact goon _)
              · refine v_iload (pc := 73) dX11_goes_73 rfl ?_
                refine v_istore_n (pc := 75) dX11_goes_75 rfl (by decide) rfl ?_
                refine v_iload (pc := 76) dX11_goes_76 rfl ?_
                refine v_istore_n (pc := 78) dX11_goes_78 rfl (by decide) rfl ?_
                refine v_iincN (pc := 79) (b := 1) dX11_goes_79 rfl (by decide) (by decide) rfl ?_
                refine v_goto (pc := 82) (tgt := 20) dX11_goes_82 (by decide) ?_
                first
                  | (rw [if_pos (show w_many (vw b i p) < q by omega)] at goon; exact goon _)
                  | (rw [if_neg (show ¬ w_many (vw b i p) < q by omega)] at goon; exact goon _)
      exact key 0 (Nat.zero_le _) I R none cR_rf cRR_rf hL
    · have e2 := x_n2 (Or.inr c6)
      refine v_iconst (pc := 9) (v := -1) dX11_goes_9 (by decide) ?_
      exact v_iret (pc := 10) dX11_goes_10 rfl rfl (Nat.le_of_ble_eq_true rfl) (Nat.le_of_ble_eq_true rfl) ⟨by simp only [s_goes, s_best, e2], I, R, rfl, hL, cR_rf, cRR_rf⟩
theorem t_pairs {f : Nat → Nat} {n k code : Nat} (hn : n ≤ 5) (h : ∀ i j, (f i).testBit j = t_ed n code i j) : (∀ q, q < w_pr n → w_both f (w_l q) (w_g q) = k) ↔ t_ok n k code = true := by
  rw [t_ok_iff (k := k) h]
  constructor
  · intro g a c h1 h2
    have e := w_lg c (by omega) a h1
    have hlt : w_pr c + a < w_pr n := by
      rcases (show n = 0 ∨ n = 1 ∨ n = 2 ∨ n = 3 ∨ n = 4 ∨ n = 5 by omega) with rfl | rfl | rfl | rfl | rfl | rfl <;> rcases (show c = 0 ∨ c = 1 ∨ c = 2 ∨ c = 3 ∨ c = 4 by omega) with rfl | rfl | rfl | rfl | rfl <;> simp [w_pr] <;> omega
    have := g _ hlt
    rw [e.1, e.2] at this
    exact this
  · intro g q hq
    obtain ⟨h1, h2⟩ := ve_lg (show n ≤ 6 by omega) hq
    have hg := w_g_in q (by have := pr15 (show n ≤ 6 by omega); omega)
    exact g _ _ hg.2.2.2 h2
theorem cR_T {I I' : Nat → Nat → Int32} (h : cT 21 I I') : cR I I' := fun a z n => h a z (fun e => n (Or.inr (Or.inl (by omega))))
theorem x_25 {z : Int32} : (¬ z < nI 2 ∧ z ≤ nI 5) ↔ ∃ n : Nat, 2 ≤ n ∧ n ≤ 5 ∧ z = nI n := by
  rw [Int32.lt_iff_toInt_lt, Int32.le_iff_toInt_le, nI_toInt (by omega), nI_toInt (by omega)]
  constructor
  · rintro ⟨h1, h2⟩
    refine ⟨z.toInt.toNat, by omega, by omega, Int32.toInt_inj.mp ?_⟩
    rw [nI_toInt (by omega)]; omega
  · rintro ⟨n, h1, h2, rfl⟩
    rw [nI_toInt (by omega)]; omega
theorem x_n4 {z : Int32} : (¬ z < 0 ∧ z ≤ nI 3) ↔ vp_in z 4 := by
  rw [vp_in_iff, Int32.lt_iff_toInt_lt, Int32.le_iff_toInt_le, nI_toInt (by omega)]
  have e : (0 : Int32).toInt = 0 := rfl
  rw [e]; omega
theorem tw_bad {nn kk : Int32} (h : ¬ (∃ n : Nat, 2 ≤ n ∧ n ≤ 5 ∧ nn = nI n) ∨ ¬ vp_in kk 4) : s_towns nn kk = -2 := by
  unfold s_towns
  rcases x_sw 6 (by decide) nn with ⟨n, hn, rfl, e1⟩ | ⟨e1, -⟩
  · rcases x_sw 4 (by decide) kk with ⟨k, hk, rfl, e2⟩ | ⟨e2, -⟩
    · rw [e1, e2]
      rcases h with h | h
      · exact if_pos (Nat.lt_of_not_le (fun z => h ⟨n, z, by omega, rfl⟩))
      · exact absurd (vp_in_nI hk (by decide)) h
    · rw [e1, e2]
  · rw [e1]
theorem tw_ok {n k : Nat} (h1 : 2 ≤ n) (h2 : n ≤ 5) (hk : k < 4) : s_towns (nI n) (nI k) = nI (cnt (t_ok n k) (2 ^ w_pr n)) := by
  unfold s_towns
  rw [x_nat_s (show n < 6 by omega) (by decide), x_nat_s hk (by decide)]
  exact if_neg (by omega)
abbrev rm_X11_towns : Room := { frames := 2, cells := 0, slots := 0, locals := 46 }
set_option maxRecDepth 20000 in
theorem c_X11_towns (G : v_G) (l : Launch) {K : Nat × v_TY} {I : Nat → Nat → Int32} {J : Nat → Nat → Int64} {R : Nat → Nat → Option Nat} (hL : Lay K R) {nn kk : Int32} : v_M G l yX11_towns cX11_towns 6 (some .int) rm_X11_towns [.ref 0, .int nn, .int kk] (K, I, J, R) (v_Qi G (fun (x : Int32) (M' : v_MM) => x = s_towns nn kk ∧ ∃ I', M' = (K, I', J, R) ∧ cR I I')) := by
  refine v_of [some (.ref 0), some (.int nn), some (.int kk), none, none, none] (by decide) (Nat.le_of_ble_eq_true rfl) (Nat.le_of_ble_eq_true rfl) rfl ?_
  refine v_iload_n (pc := 0) dX11_towns_0 rfl rfl ?_
  refine v_iconst (pc := 1) (v := nI 2) dX11_towns_1 (by decide) ?_
  refine v_icmp_lt (pc := 2) (tgt := 19) dX11_towns_2 (by decide) (fun c2 => ?_) (fun c2 => ?_)
  · have er := tw_bad (kk := kk) (Or.inl (fun z => (x_25.mpr z).1 c2))
    refine v_bipush (pc := 19) (v := -2) dX11_towns_19 (by decide) ?_
    exact v_iret (pc := 21) dX11_towns_21 rfl rfl (Nat.le_of_ble_eq_true rfl) (Nat.le_of_ble_eq_true rfl) ⟨er.symm, I, rfl, cR_rf⟩
  · refine v_iload_n (pc := 5) dX11_towns_5 rfl rfl ?_
    refine v_iconst (pc := 6) (v := nI 5) dX11_towns_6 (by decide) ?_
    refine v_icmp_gt (pc := 7) (tgt := 19) dX11_towns_7 (by decide) (fun c7 => ?_) (fun c7 => ?_)
    · have er := tw_bad (kk := kk) (Or.inl (fun z => absurd (x_25.mpr z).2 (Int32.not_le.mpr c7)))
      refine v_bipush (pc := 19) (v := -2) dX11_towns_19 (by decide) ?_
      exact v_iret (pc := 21) dX11_towns_21 rfl rfl (Nat.le_of_ble_eq_true rfl) (Nat.le_of_ble_eq_true rfl) ⟨er.symm, I, rfl, cR_rf⟩
    · refine v_iload_n (pc := 10) dX11_towns_10 rfl rfl ?_
      refine v_if_lt (pc := 11) (tgt := 19) dX11_towns_11 (by decide) (fun c11 => ?_) (fun c11 => ?_)
      · have er := tw_bad (nn := nn) (Or.inr (fun z => (x_n4.mpr z).1 c11))
        refine v_bipush (pc := 19) (v := -2) dX11_towns_19 (by decide) ?_
        exact v_iret (pc := 21) dX11_towns_21 rfl rfl (Nat.le_of_ble_eq_true rfl) (Nat.le_of_ble_eq_true rfl) ⟨er.symm, I, rfl, cR_rf⟩
      · refine v_iload_n (pc := 14) dX11_towns_14 rfl rfl ?_
        refine v_iconst (pc := 15) (v := nI 3) dX11_towns_15 (by decide) ?_
        refine v_icmp_le (pc := 16) (tgt := 22) dX11_towns_16 (by decide) (fun c16 => ?_) (fun c16 => ?_)
        · obtain ⟨n, h2, h5, rfl⟩ := x_25.mp ⟨c2, Int32.not_lt.mp c7⟩
          obtain ⟨k, hk, rfl, -⟩ := x_nat_i (x_n4.mp ⟨c11, c16⟩) (by decide)
          refine v_iload_n (pc := 22) dX11_towns_22 rfl rfl ?_
          refine v_iload_n (pc := 23) dX11_towns_23 rfl rfl ?_
          refine v_iconst (pc := 24) (v := nI 1) dX11_towns_24 (by decide) ?_
          refine v_isubN (pc := 25) (by omega) dX11_towns_25 ?_
          refine v_imulN (pc := 26) dX11_towns_26 ?_
          refine v_iconst (pc := 27) (v := nI 2) dX11_towns_27 (by decide) ?_
          refine v_idivN (pc := 28) (Nat.lt_of_le_of_lt (Nat.mul_le_mul (show _ ≤ 5 by omega) (show _ ≤ 4 by omega)) (by decide)) (by decide) (by decide) dX11_towns_28 ?_
          refine v_istore_n (pc := 29) dX11_towns_29 rfl (by decide) rfl ?_
          refine v_iconst (pc := 30) (v := nI 0) dX11_towns_30 (by decide) ?_
          refine v_istore (pc := 31) dX11_towns_31 (by decide) rfl ?_
          refine v_iconst (pc := 33) (v := nI 0) dX11_towns_33 (by decide) ?_
          refine v_istore (pc := 34) dX11_towns_34 (by decide) rfl ?_
          have h10 : w_pr n ≤ 10 := by rcases (show n = 2 ∨ n = 3 ∨ n = 4 ∨ n = 5 by omega) with rfl | rfl | rfl | rfl <;> decide
          have h1k : 2 ^ w_pr n ≤ 1024 := Nat.le_trans (Nat.pow_le_pow_right (by decide) h10) (by decide)
          have key : ∀ i, i ≤ 2 ^ w_pr n → ∀ Ii : Nat → Nat → Int32, cR I Ii → v_V G l yX11_towns cX11_towns 6 (some .int) rm_X11_towns (v_Qi G (fun (x : Int32) (M' : v_MM) => x = s_towns (nI n) (nI k) ∧ ∃ I', M' = (K, I', J, R) ∧ cR I I')) 0 0 36 [some (.ref 0), some (.int (nI n)), some (.int (nI k)), some (.int (nI (w_pr n))), some (.int (nI (cnt (t_ok n k) i))), some (.int (nI i))] [] (K, Ii, J, R) := by
            refine v_down (2 ^ w_pr n) (fun i hi ih => ?_)
            intro Ii hI
            refine v_iload (pc := 36) dX11_towns_36 rfl ?_
            refine v_iconst (pc := 38) (v := nI 1) dX11_towns_38 (by decide) ?_
            refine v_iload_n (pc := 39) dX11_towns_39 rfl rfl ?_
            refine v_ishl (pc := 40) dX11_towns_40 ?_
            refine v_top (v_shl1 (w_pr n) (by omega)) ?_
            refine v_icmp_geN (pc := 41) (tgt := 75) ⟨by omega, by omega⟩ dX11_towns_41 (by decide) (fun c41 => ?_) (fun c41 => ?_)
            · refine v_iload (pc := 75) dX11_towns_75 rfl ?_
              exact v_iret (pc := 77) dX11_towns_77 rfl rfl (Nat.le_of_ble_eq_true rfl) (Nat.le_of_ble_eq_true rfl) ⟨by rw [tw_ok h2 h5 hk, show 2 ^ w_pr n = i by omega], Ii, rfl, hI⟩
            · refine v_aload_n (pc := 44) dX11_towns_44 rfl rfl ?_
              refine v_getH (pc := 45) fg_X11_21_11 dX11_towns_45 (li_0 hL) (lr_0_2 hL) ?_
              refine v_iload (pc := 48) dX11_towns_48 rfl ?_
              refine v_iload_n (pc := 50) dX11_towns_50 rfl rfl ?_
              refine v_cv (pc := 51) (v_rV (c_X9_befriendAs G l hL (Or.inr (Or.inr rfl)) (by omega)) rfl kV_X11_211 (v_rcO (li_21 hL) rfl (by decide)) ⟨Nat.le_of_ble_eq_true rfl, Nat.le_of_ble_eq_true rfl⟩ ⟨Nat.le_of_ble_eq_true rfl, Nat.le_of_ble_eq_true rfl⟩ dX11_towns_51 (Nat.le_of_ble_eq_true rfl)) (fun M51 h51 => ?_)
              obtain ⟨I51, rfl, t51, f51, g51, l51, b51⟩ := h51
              refine v_aload_n (pc := 54) dX11_towns_54 rfl rfl ?_
              refine v_getH (pc := 55) fg_X11_21_11 dX11_towns_55 (li_0 hL) (lr_0_2 hL) ?_
              refine v_iload_n (pc := 58) dX11_towns_58 rfl rfl ?_
              refine v_iload_n (pc := 59) dX11_towns_59 rfl rfl ?_
              refine v_ci (pc := 60) (v_rV (c_X9_eachShares G l hL (Or.inr (Or.inr rfl)) (f := f51) g51 l51 ⟨by omega, by omega⟩) rfl kV_X11_215 (v_rcO (li_21 hL) rfl (by decide)) ⟨Nat.le_of_ble_eq_true rfl, Nat.le_of_ble_eq_true rfl⟩ ⟨Nat.le_of_ble_eq_true rfl, Nat.le_of_ble_eq_true rfl⟩ dX11_towns_60 (Nat.le_of_ble_eq_true rfl)) (fun x60 M60 h60 => ?_)
              obtain ⟨rfl, rfl⟩ := h60
              have eg : cnt (t_ok n k) (i + 1) = cnt (t_ok n k) i + (if t_ok n k i = true then 1 else 0) := rfl
              have goon := ih (i + 1) (by omega) (by omega) I51 (cR_tr hI (cR_T t51))
              rw [eg] at goon
              have hiff := t_pairs (k := k) (show n ≤ 5 by omega) b51
              refine v_if_eqP (pc := 63) (tgt := 69) dX11_towns_63 (by decide) (fun c63 => ?_) (fun c63 => ?_)
              · refine v_iincN (pc := 69) (b := 1) dX11_towns_69 rfl (by decide) (by decide) rfl ?_
                refine v_goto (pc := 72) (tgt := 36) dX11_towns_72 (by decide) ?_
                first
                  | (rw [if_pos (hiff.mp c63)] at goon; exact goon)
                  | (rw [if_neg (fun z => c63 (hiff.mpr z)), Nat.add_zero] at goon; exact goon)
              · refine v_iincN (pc := 66) (b := 1) dX11_towns_66 rfl (by decide) (by decide) rfl ?_
                refine v_iincN (pc := 69) (b := 1) dX11_towns_69 rfl (by decide) (by decide) rfl ?_
                refine v_goto (pc := 72) (tgt := 36) dX11_towns_72 (by decide) ?_
                first
                  | (rw [if_pos (hiff.mp c63)] at goon; exact goon)
                  | (rw [if_neg (fun z => c63 (hiff.mpr z)), Nat.add_zero] at goon; exact goon)
          exact key 0 (Nat.zero_le _) I cR_rf
        · have er := tw_bad (nn := nn) (Or.inr (fun z => c16 (x_n4.mpr z).2))
          refine v_bipush (pc := 19) (v := -2) dX11_towns_19 (by decide) ?_
          exact v_iret (pc := 21) dX11_towns_21 rfl rfl (Nat.le_of_ble_eq_true rfl) (Nat.le_of_ble_eq_true rfl) ⟨er.symm, I, rfl, cR_rf⟩
