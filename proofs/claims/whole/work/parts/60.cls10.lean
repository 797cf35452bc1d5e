/-! THE CLASS: what is tried in the trial village -/
def BE (I I' : Nat → Nat → Int32) (R R' : Nat → Nat → Option Nat) (h g : Nat) : Prop :=
  (I' h 0 = I g 0 ∧ I' h 1 = I g 1 ∧ I' h 2 = I g 2 ∧ I' h 8 = I g 8 ∧ I' h 11 = I g 11) ∧ ((∀ i, i < 6 → I' (h + 2) i = I (g + 2) i) ∧ (∀ i, i < 24 → I' (h + 3) i = I (g + 3) i) ∧ (∀ i, i < 6 → I' (h + 4) i = I (g + 4) i) ∧ (∀ i, i < 6 → I' (h + 5) i = I (g + 5) i) ∧ (∀ i, i < 6 → I' (h + 6) i = I (g + 6) i) ∧ (∀ i, i < 12 → I' (h + 7) i = I (g + 7) i) ∧ (∀ i, i < 12 → I' (h + 8) i = I (g + 8) i)) ∧
  (R' h 3 = R g 3 ∧ ∀ i, i < 6 → R' (h + 1) i = R (g + 1) i) ∧ (∀ a z, a < h ∨ h + 8 < a → I' a z = I a z) ∧ (∀ a z, a ≠ h → a ≠ h + 1 → R' a z = R a z)
theorem BE_of {I : Nat → Nat → Int32} {R : Nat → Nat → Option Nat} {h g : Nat} (hh : v_3 h) (hg : v_3 g) (n : g ≠ h) : BE I (beA I h g) R (beR R h g) h g := by
  refine ⟨⟨?_, ?_, ?_, ?_, ?_⟩, ⟨fun i hi => ?_, fun i hi => ?_, fun i hi => ?_, fun i hi => ?_, fun i hi => ?_, fun i hi => ?_, fun i hi => ?_⟩, ⟨?_, fun i hi => ?_⟩, fun a z ha => ?_, fun a z n1 n2 => ?_⟩
  all_goals (rcases hh with rfl | rfl | rfl <;> rcases hg with rfl | rfl | rfl <;> first | exact absurd rfl n | skip)
  all_goals first
    | (simp [beA, be5, v_u, v_to, hi]; done)
    | (simp [beA, be5, v_u, v_to]; done)
    | (simp [beR, v_u, v_tr, hi]; done)
    | (simp [beR, v_u, v_tr]; done)
    | (simp [beR, v_u, v_tr, n1, n2]; done)
    | skip
  all_goals first
    | (have k0 : a ≠ 1 := by omega
       have k2 : a ≠ 3 := by omega
       have k3 : a ≠ 4 := by omega
       have k4 : a ≠ 5 := by omega
       have k5 : a ≠ 6 := by omega
       have k6 : a ≠ 7 := by omega
       have k7 : a ≠ 8 := by omega
       have k8 : a ≠ 9 := by omega
       simp [beA, be5, v_u, v_to, k0, k2, k3, k4, k5, k6, k7, k8]; done)
    | (have k0 : a ≠ 11 := by omega
       have k2 : a ≠ 13 := by omega
       have k3 : a ≠ 14 := by omega
       have k4 : a ≠ 15 := by omega
       have k5 : a ≠ 16 := by omega
       have k6 : a ≠ 17 := by omega
       have k7 : a ≠ 18 := by omega
       have k8 : a ≠ 19 := by omega
       simp [beA, be5, v_u, v_to, k0, k2, k3, k4, k5, k6, k7, k8]; done)
    | (have k0 : a ≠ 21 := by omega
       have k2 : a ≠ 23 := by omega
       have k3 : a ≠ 24 := by omega
       have k4 : a ≠ 25 := by omega
       have k5 : a ≠ 26 := by omega
       have k6 : a ≠ 27 := by omega
       have k7 : a ≠ 28 := by omega
       have k8 : a ≠ 29 := by omega
       simp [beA, be5, v_u, v_to, k0, k2, k3, k4, k5, k6, k7, k8]; done)
theorem Lay_be {K : Nat × v_TY} {R : Nat → Nat → Option Nat} {h g : Nat} (hL : Lay K R) (hh : v_3 h) : Lay K (beR R h g) := by
  have h1 : ∀ q ∈ v_layR, ¬ (q.1 = h ∧ q.2.1 = 3) := by rcases hh with rfl | rfl | rfl <;> decide
  have h2 : ∀ q ∈ v_layR, q.1 ≠ h + 1 := by rcases hh with rfl | rfl | rfl <;> decide
  refine ⟨hL.1, fun q hq => ?_⟩
  show (if q.1 = h + 1 ∧ q.2.1 < 6 then _ else v_u R h 3 (R g 3) q.1 q.2.1) = _
  rw [if_neg (fun z => h2 q hq z.1), v_u_g (h1 q hq)]
  exact hL.2 q hq
theorem TH_R {K : Nat × v_TY} {R R' : Nat → Nat → Option Nat} {t : Nat} (h : TH K R t) (e : ∀ z, R' t z = R t z) : TH K R' t := ⟨h.1, h.2.1, ⟨(e _).trans h.2.2.1.1, (e _).trans h.2.2.1.2.1, (e _).trans h.2.2.1.2.2.1, (e _).trans h.2.2.1.2.2.2.1, (e _).trans h.2.2.1.2.2.2.2⟩, h.2.2.2⟩
theorem TN_o {K : Nat × v_TY} {I I' : Nat → Nat → Int32} {R R' : Nat → Nat → Option Nat} {r : Option Nat} {p : CLS} (h : TN K I R r p) (e : ∀ a z, 31 ≤ a → (a ≤ 36 ∨ 91 ≤ a) → I' a z = I a z) (e2 : ∀ a z, (a = 31 ∨ 91 ≤ a) → R' a z = R a z) : TN K I' R' r p := h.elim Or.inl (fun ⟨t, h1, h2, h3⟩ => Or.inr ⟨t, h1, TH_R h2 (fun z => e2 t z h2.2.2.2), TC_o h3 (fun a z l1 l2 => e a z (by have := h2.2.2.2; omega) (by have := h2.2.2.2; omega))⟩)
theorem CV_BE {K : Nat × v_TY} {I I' : Nat → Nat → Int32} {R R' : Nat → Nat → Option Nat} {h g hm : Nat} {b : BS} {p : CLS} (hv : CV K I R g b hm p) (hB : BE I I' R R' h g) (hh : v_3 h) : CV K I' R' h b hm p := by
  obtain ⟨⟨h1, h2, h3, h4, h5⟩, ⟨a1, a2, a3, a4, a5, a6, a7⟩, ⟨r1, r2⟩, f1, f2⟩ := hB
  have hl : h ≤ 21 := by rcases hh with rfl | rfl | rfl <;> omega
  have hn := hv.2.1.1
  refine ⟨⟨h1.trans hv.1.1, h2.trans hv.1.2.1, h3.trans hv.1.2.2.1, fun i hi => (a1 i hi).trans (hv.1.2.2.2.1 i hi), fun j hj => (a2 j hj).trans (hv.1.2.2.2.2 j hj)⟩, hv.2.1, hv.2.2.1, fun i hi => ?_, ?_⟩
  · obtain ⟨a, g1, g2⟩ := hv.2.2.2.1 i hi
    exact ⟨a, (r2 i (by omega)).trans g1, PS_o g2 (fun z => f1 a z (by have := g2.1; omega))⟩
  · rw [r1]
    exact TN_o hv.2.2.2.2 (fun a z l1 _ => f1 a z (by omega)) (fun a z l => f2 a z (by omega) (by omega))
def m_cr (a : Nat) : Prop := a = 10 ∨ (21 ≤ a ∧ a ≤ 30) ∨ a = 41 ∨ a = 42
def cR (I I' : Nat → Nat → Int32) : Prop := ∀ a z, ¬ m_cr a → I' a z = I a z
def cRR (R R' : Nat → Nat → Option Nat) : Prop := ∀ a z, a ≠ 21 → a ≠ 22 → R' a z = R a z
theorem cR_rf {I : Nat → Nat → Int32} : cR I I := fun _ _ _ => rfl
theorem cR_tr {I I' I'' : Nat → Nat → Int32} (h : cR I I') (h' : cR I' I'') : cR I I'' := fun a z n => (h' a z n).trans (h a z n)
theorem cRR_rf {R : Nat → Nat → Option Nat} : cRR R R := fun _ _ _ _ => rfl
theorem cRR_tr {R R' R'' : Nat → Nat → Option Nat} (h : cRR R R') (h' : cRR R' R'') : cRR R R'' := fun a z n m => (h' a z n m).trans (h a z n m)
theorem cR_F {I I' : Nat → Nat → Int32} (h : cF 1 I I') : cR I I' := fun a z n => h a z (fun e => n (Or.inl e))
theorem cR_F2 {I I' : Nat → Nat → Int32} (h : cF 21 I I') : cR I I' := fun a z n => h a z (fun e => n (Or.inr (Or.inl (by omega))))
theorem cR_K {I I' : Nat → Nat → Int32} {b : BS} (h : cK 21 I I' b) : cR I I' := fun a z n => h.1 a z (fun e => n (Or.inr (Or.inl (by omega))))
theorem cR_BE {I I' : Nat → Nat → Int32} {R R' : Nat → Nat → Option Nat} {g : Nat} (h : BE I I' R R' 21 g) : cR I I' ∧ cRR R R' := ⟨fun a z n => h.2.2.2.1 a z (Classical.byContradiction fun e => n (Or.inr (Or.inl (by omega)))), fun a z n m => h.2.2.2.2 a z n m⟩
theorem CV_R {K : Nat × v_TY} {I I' : Nat → Nat → Int32} {R R' : Nat → Nat → Option Nat} {h hm : Nat} {b : BS} {p : CLS} (hv : CV K I R h b hm p) (hh : h = 1 ∨ h = 11) (j : cR I I') (j2 : cRR R R') : CV K I' R' h b hm p := by
  have e : ∀ z k, k < 9 → I' (h + k) z = I (h + k) z := fun z k hk => j _ _ (by unfold m_cr; omega)
  refine ⟨⟨(e 0 0 (by decide)).trans hv.1.1, (e 1 0 (by decide)).trans hv.1.2.1, (e 2 0 (by decide)).trans hv.1.2.2.1, fun i hi => (e i 2 (by decide)).trans (hv.1.2.2.2.1 i hi), fun q hq => (e q 3 (by decide)).trans (hv.1.2.2.2.2 q hq)⟩, hv.2.1, hv.2.2.1, fun i hi => ?_, ?_⟩
  · obtain ⟨a, g1, g2⟩ := hv.2.2.2.1 i hi
    exact ⟨a, (j2 _ _ (by omega) (by omega)).trans g1, PS_o g2 (fun z => j a z (by have := g2.1; unfold m_cr; omega))⟩
  · rw [j2 h 3 (by omega) (by omega)]
    exact TN_o hv.2.2.2.2 (fun a z l1 l2 => j a z (by unfold m_cr; omega)) (fun a z l => j2 a z (by omega) (by omega))
theorem CV_K {K : Nat × v_TY} {I I' : Nat → Nat → Int32} {R : Nat → Nat → Option Nat} {h hm : Nat} {b b' : BS} {p : CLS} (hv : CV K I R h b hm p) (hh : v_3 h) (j : cK h I I' b') (e : b_n b' = b_n b ∧ b_y b' = b_y b ∧ b_k b' = b_k b ∧ b_v b' = b_v b ∧ b_r b' = b_r b) (hB : VB b') : CV K I' R h b' hm p := by
  obtain ⟨e1, e2, e3, e4, e5⟩ := e
  have hl : h ≤ 21 := by rcases hh with rfl | rfl | rfl <;> omega
  refine ⟨⟨by rw [j.1 _ _ (by omega), e1]; exact hv.1.1, by rw [j.1 _ _ (by omega)]; exact hv.1.2.1, by rw [j.1 _ _ (by omega), e2]; exact hv.1.2.2.1, j.2, fun q hq => by rw [j.1 _ _ (by omega), e5]; exact hv.1.2.2.2.2 q hq⟩, hB, ⟨hv.2.2.1.1, fun q hq => by rw [e1]; exact hv.2.2.1.2 q hq⟩, fun i hi => ?_, ?_⟩
  · rw [e1] at hi
    obtain ⟨a, g1, g2⟩ := hv.2.2.2.1 i hi
    rw [e3, e4]
    exact ⟨a, g1, PS_o g2 (fun z => j.1 a z (by have := g2.1; omega))⟩
  · exact TN_o hv.2.2.2.2 (fun a z l1 _ => j.1 a z (by omega)) (fun a z l => rfl)
theorem b_fp2 (b : BS) {k : Nat} (hk : k < 15) (i : Nat) : b_m (b_fp (b_fp b k) k) i = b_m b i := b_flip2 b (by have := w_g_in k hk; omega) i
theorem cK_eq {h : Nat} {I I' : Nat → Nat → Int32} {b b' : BS} (j : cK h I I' b) (e : ∀ i, b_m b i = b_m b' i) : cK h I I' b' := ⟨j.1, fun i hi => by rw [← e i]; exact j.2 i hi⟩
theorem HF_n {b b' : BS} {hm : Nat} (h : HF b hm) (e : b_n b' = b_n b) : HF b' hm := ⟨h.1, fun j => by rw [e]; exact h.2 j⟩
theorem nI_m5 (k : Nat) (hk : k < 1000 := by omega) : ¬ nI k = -5 := by
  intro q
  have := congrArg Int32.toInt q
  rw [nI_toInt (by omega)] at this
  have e : (-5 : Int32).toInt = -5 := rfl
  omega
abbrev rm_X11_first : Room := { frames := 13, cells := 0, slots := 0, locals := 612 }
set_option maxRecDepth 20000 in
theorem c_X11_first (G : v_G) (l : Launch) {K : Nat × v_TY} {I : Nat → Nat → Int32} {J : Nat → Nat → Int64} {R : Nat → Nat → Option Nat} (hL : Lay K R) {ww : Int32} {b : BS} {hm : Nat} {p : CLS} (hv : CV K I R 1 b hm p) (hf : HF b hm) (hA : CPA K R 1) : v_M G l yX11_first cX11_first 6 (some .int) rm_X11_first [.ref 0, .int ww] (K, I, J, R) (v_Qi G (fun (x : Int32) (M' : v_MM) => x = s_first b p ww ∧ ∃ I' R', M' = (K, I', J, R') ∧ Lay K R' ∧ cR I I' ∧ cRR R R')) := by
  refine v_of [some (.ref 0), some (.int ww), none, none, none, none] (by decide) (Nat.le_of_ble_eq_true rfl) (Nat.le_of_ble_eq_true rfl) rfl ?_
  have hB := hv.2.1
  have hn6 := hB.1
  have h15 := pr15 hn6
  have he := ve_now (p := p) hB hf
  refine v_iload_n (pc := 0) dX11_first_0 rfl rfl ?_
  refine v_if_lt (pc := 1) (tgt := 9) dX11_first_1 (by decide) (fun c1 => ?_) (fun c1 => ?_)
  · have e2 := x_n2 (Or.inl c1)
    refine v_iconst (pc := 9) (v := -1) dX11_first_9 (by decide) ?_
    exact v_iret (pc := 10) dX11_first_10 rfl rfl (Nat.le_of_ble_eq_true rfl) (Nat.le_of_ble_eq_true rfl) ⟨by simp only [s_first, s_best, e2], I, R, rfl, hL, cR_rf, cRR_rf⟩
  · refine v_iload_n (pc := 4) dX11_first_4 rfl rfl ?_
    refine v_iconst (pc := 5) (v := nI 1) dX11_first_5 (by decide) ?_
    refine v_icmp_le (pc := 6) (tgt := 11) dX11_first_6 (by decide) (fun c6 => ?_) (fun c6 => ?_)
    · have hw2 := x_hw c1 c6
      refine v_aload_n (pc := 11) dX11_first_11 rfl rfl ?_
      refine v_getH (pc := 12) fg_X11_21_11 dX11_first_12 (li_0 hL) (lr_0_2 hL) ?_
      refine v_aload_n (pc := 15) dX11_first_15 rfl rfl ?_
      refine v_getH (pc := 16) fg_X11_12_11 dX11_first_16 (li_0 hL) (lr_0_0 hL) ?_
      refine v_cv (pc := 19) (v_rV (c_X9_become G l hL (Or.inr (Or.inr rfl)) (Or.inl rfl) (by decide) hA) rfl kV_X11_177 (v_rcO (li_21 hL) rfl (by decide)) ⟨Nat.le_of_ble_eq_true rfl, Nat.le_of_ble_eq_true rfl⟩ ⟨Nat.le_of_ble_eq_true rfl, Nat.le_of_ble_eq_true rfl⟩ dX11_first_19 (Nat.le_of_ble_eq_true rfl)) (fun M19 h19 => ?_)
      subst h19
      have hBE := BE_of (I := I) (R := R) (h := 21) (g := 1) (Or.inr (Or.inr rfl)) (Or.inl rfl) (by decide)
      have hLb := Lay_be (g := 1) hL (Or.inr (Or.inr rfl))
      have hvb := CV_BE hv hBE (Or.inr (Or.inr rfl))
      obtain ⟨jb, jb2⟩ := cR_BE hBE
      generalize beA I 21 1 = I1 at hBE hvb jb ⊢
      generalize beR R 21 1 = R1 at hBE hvb jb2 hLb ⊢
      have hL := hLb
      refine v_bipush (pc := 22) (v := -5) dX11_first_22 (by decide) ?_
      refine v_istore_n (pc := 24) dX11_first_24 rfl (by decide) rfl ?_
      refine v_aload_n (pc := 25) dX11_first_25 rfl rfl ?_
      refine v_getH (pc := 26) fg_X11_21_11 dX11_first_26 (li_0 hL) (lr_0_2 hL) ?_
      refine v_ci (pc := 29) (v_rV (c_X9_howManyAmiss G l hLb (Or.inr (Or.inr rfl)) hvb) rfl kV_X11_168 (v_rcO (li_21 hL) rfl (by decide)) ⟨Nat.le_of_ble_eq_true rfl, Nat.le_of_ble_eq_true rfl⟩ ⟨Nat.le_of_ble_eq_true rfl, Nat.le_of_ble_eq_true rfl⟩ dX11_first_29 (Nat.le_of_ble_eq_true rfl)) (fun x29 M29 h29 => ?_)
      obtain ⟨rfl, I2, rfl, f2⟩ := h29
      have hv2 := CV_F hvb (Or.inr (Or.inr rfl)) f2
      have j2 := cR_tr jb (cR_F2 f2)
      rw [ve_many he]
      refine v_istore_n (pc := 32) dX11_first_32 rfl (by decide) rfl ?_
      refine v_iconst (pc := 33) (v := nI 0) dX11_first_33 (by decide) ?_
      refine v_istore (pc := 34) dX11_first_34 (by decide) rfl ?_
      have key : ∀ i, i ≤ w_pr (b_n b) → ∀ (Ii : Nat → Nat → Int32) (z5 : Option Value), cR I Ii → CV K Ii R1 21 b hm p → v_V G l yX11_first cX11_first 6 (some .int) rm_X11_first (v_Qi G (fun (x : Int32) (M' : v_MM) => x = s_first b p ww ∧ ∃ I' R', M' = (K, I', J, R') ∧ Lay K R' ∧ cR I I' ∧ cRR R R')) 0 0 36 [some (.ref 0), some (.int ww), some (.int (w_o (w_fst (w_tr b p) (none, w_many (vw b 9 p)) i).1)), some (.int (nI (w_fst (w_tr b p) (none, w_many (vw b 9 p)) i).2)), some (.int (nI i)), z5] [] (K, Ii, J, R1) := by
        refine v_down (w_pr (b_n b)) (fun i hi ih => ?_)
        intro Ii z5 hI hvi
        refine v_iload (pc := 36) dX11_first_36 rfl ?_
        refine v_aload_n (pc := 38) dX11_first_38 rfl rfl ?_
        refine v_getH (pc := 39) fg_X11_21_11 dX11_first_39 (li_0 hL) (lr_0_2 hL) ?_
        refine v_ci (pc := 42) (v_rV (c_X9_pairCount G l hLb (Or.inr (Or.inr rfl)) hvi.1.1 (by omega)) rfl kV_X11_162 (v_rcO (li_21 hL) rfl (by decide)) ⟨Nat.le_of_ble_eq_true rfl, Nat.le_of_ble_eq_true rfl⟩ ⟨Nat.le_of_ble_eq_true rfl, Nat.le_of_ble_eq_true rfl⟩ dX11_first_42 (Nat.le_of_ble_eq_true rfl)) (fun x42 M42 h42 => ?_)
        obtain ⟨rfl, rfl⟩ := h42
        refine v_icmp_geN (pc := 45) (tgt := 93) ⟨by omega, by omega⟩ dX11_first_45 (by decide) (fun c45 => ?_) (fun c45 => ?_)
        · have ei : i = w_pr (b_n b) := by omega
          subst ei
          have hkb := w_fst_k (w_tr b p) (none, w_many (vw b 9 p)) 15 (fun k z => by cases z) (w_pr (b_n b)) (by omega)
          show v_V G l _ _ _ _ _ (v_Qi G (fun (x : Int32) (M' : v_MM) => x = s_best (w_fst (w_tr b p) (none, w_many (vw b 9 p)) (w_pr (b_n b))) ww ∧ _)) _ _ _ _ _ _
          generalize (w_fst (w_tr b p) (none, w_many (vw b 9 p)) (w_pr (b_n b))) = z at hkb ⊢
          obtain ⟨o, z⟩ := z
          rcases hw2 with rfl | rfl <;> rcases o with - | k
          · refine v_iload_n (pc := 93) dX11_first_93 rfl rfl ?_
            refine v_bipush (pc := 94) (v := -5) dX11_first_94 (by decide) ?_
            refine v_icmp_ne (pc := 96) (tgt := 102) dX11_first_96 (by decide) (fun c96 => ?_) (fun c96 => ?_)
            · refine v_iload_n (pc := 102) dX11_first_102 rfl rfl ?_
              refine v_if_neN (pc := 103) (tgt := 110) (by omega) dX11_first_103 (by decide) (fun c103 => ?_) (fun c103 => ?_)
              · refine v_iload_n (pc := 110) dX11_first_110 rfl rfl ?_
                exact v_iret (pc := 111) dX11_first_111 rfl rfl (Nat.le_of_ble_eq_true rfl) (Nat.le_of_ble_eq_true rfl) ⟨by first | omega | rfl | exact absurd rfl c96 | exact absurd c96 (nI_m5 _), Ii, R1, rfl, hLb, hI, jb2⟩
              · refine v_iload_n (pc := 106) dX11_first_106 rfl rfl ?_
                refine v_goto (pc := 107) (tgt := 111) dX11_first_107 (by decide) ?_
                exact v_iret (pc := 111) dX11_first_111 rfl rfl (Nat.le_of_ble_eq_true rfl) (Nat.le_of_ble_eq_true rfl) ⟨by first | omega | rfl | exact absurd rfl c96 | exact absurd c96 (nI_m5 _), Ii, R1, rfl, hLb, hI, jb2⟩
            · refine v_bipush (pc := 99) (v := -5) dX11_first_99 (by decide) ?_
              exact v_iret (pc := 101) dX11_first_101 rfl rfl (Nat.le_of_ble_eq_true rfl) (Nat.le_of_ble_eq_true rfl) ⟨by first | omega | rfl | exact absurd rfl c96 | exact absurd c96 (nI_m5 _), Ii, R1, rfl, hLb, hI, jb2⟩
          · have := hkb k rfl
            refine v_iload_n (pc := 93) dX11_first_93 rfl rfl ?_
            refine v_bipush (pc := 94) (v := -5) dX11_first_94 (by decide) ?_
            refine v_icmp_ne (pc := 96) (tgt := 102) dX11_first_96 (by decide) (fun c96 => ?_) (fun c96 => ?_)
            · refine v_iload_n (pc := 102) dX11_first_102 rfl rfl ?_
              refine v_if_neN (pc := 103) (tgt := 110) (by omega) dX11_first_103 (by decide) (fun c103 => ?_) (fun c103 => ?_)
              · refine v_iload_n (pc := 110) dX11_first_110 rfl rfl ?_
                exact v_iret (pc := 111) dX11_first_111 rfl rfl (Nat.le_of_ble_eq_true rfl) (Nat.le_of_ble_eq_true rfl) ⟨by first | omega | rfl | exact absurd rfl c96 | exact absurd c96 (nI_m5 _), Ii, R1, rfl, hLb, hI, jb2⟩
              · refine v_iload_n (pc := 106) dX11_first_106 rfl rfl ?_
                refine v_goto (pc := 107) (tgt := 111) dX11_first_107 (by decide) ?_
                exact v_iret (pc := 111) dX11_first_111 rfl rfl (Nat.le_of_ble_eq_true rfl) (Nat.le_of_ble_eq_true rfl) ⟨by first | omega | rfl | exact absurd rfl c96 | exact absurd c96 (nI_m5 _), Ii, R1, rfl, hLb, hI, jb2⟩
            · refine v_bipush (pc := 99) (v := -5) dX11_first_99 (by decide) ?_
              exact v_iret (pc := 101) dX11_first_101 rfl rfl (Nat.le_of_ble_eq_true rfl) (Nat.le_of_ble_eq_true rfl) ⟨by first | omega | rfl | exact absurd rfl c96 | exact absurd c96 (nI_m5 _), Ii, R1, rfl, hLb, hI, jb2⟩
          · refine v_iload_n (pc := 93) dX11_first_93 rfl rfl ?_
            refine v_bipush (pc := 94) (v := -5) dX11_first_94 (by decide) ?_
            refine v_icmp_ne (pc := 96) (tgt := 102) dX11_first_96 (by decide) (fun c96 => ?_) (fun c96 => ?_)
            · refine v_iload_n (pc := 102) dX11_first_102 rfl rfl ?_
              refine v_if_neN (pc := 103) (tgt := 110) (by omega) dX11_first_103 (by decide) (fun c103 => ?_) (fun c103 => ?_)
              · refine v_iload_n (pc := 110) dX11_first_110 rfl rfl ?_
                exact v_iret (pc := 111) dX11_first_111 rfl rfl (Nat.le_of_ble_eq_true rfl) (Nat.le_of_ble_eq_true rfl) ⟨by first | omega | rfl | exact absurd rfl c96 | exact absurd c96 (nI_m5 _), Ii, R1, rfl, hLb, hI, jb2⟩
              · refine v_iload_n (pc := 106) dX11_first_106 rfl rfl ?_
                refine v_goto (pc := 107) (tgt := 111) dX11_first_107 (by decide) ?_
                exact v_iret (pc := 111) dX11_first_111 rfl rfl (Nat.le_of_ble_eq_true rfl) (Nat.le_of_ble_eq_true rfl) ⟨by first | omega | rfl | exact absurd rfl c96 | exact absurd c96 (nI_m5 _), Ii, R1, rfl, hLb, hI, jb2⟩
            · refine v_bipush (pc := 99) (v := -5) dX11_first_99 (by decide) ?_
              exact v_iret (pc := 101) dX11_first_101 rfl rfl (Nat.le_of_ble_eq_true rfl) (Nat.le_of_ble_eq_true rfl) ⟨by first | omega | rfl | exact absurd rfl c96 | exact absurd c96 (nI_m5 _), Ii, R1, rfl, hLb, hI, jb2⟩
          · have := hkb k rfl
            refine v_iload_n (pc := 93) dX11_first_93 rfl rfl ?_
            refine v_bipush (pc := 94) (v := -5) dX11_first_94 (by decide) ?_
            refine v_icmp_ne (pc := 96) (tgt := 102) dX11_first_96 (by decide) (fun c96 => ?_) (fun c96 => ?_)
            · refine v_iload_n (pc := 102) dX11_first_102 rfl rfl ?_
              refine v_if_neN (pc := 103) (tgt := 110) (by omega) dX11_first_103 (by decide) (fun c103 => ?_) (fun c103 => ?_)
              · refine v_iload_n (pc := 110) dX11_first_110 rfl rfl ?_
                exact v_iret (pc := 111) dX11_first_111 rfl rfl (Nat.le_of_ble_eq_true rfl) (Nat.le_of_ble_eq_true rfl) ⟨by first | omega | rfl | exact absurd rfl c96 | exact absurd c96 (nI_m5 _), Ii, R1, rfl, hLb, hI, jb2⟩
              · refine v_iload_n (pc := 106) dX11_first_106 rfl rfl ?_
                refine v_goto (pc := 107) (tgt := 111) dX11_first_107 (by decide) ?_
                exact v_iret (pc := 111) dX11_first_111 rfl rfl (Nat.le_of_ble_eq_true rfl) (Nat.le_of_ble_eq_true rfl) ⟨by first | omega | rfl | exact absurd rfl c96 | exact absurd c96 (nI_m5 _), Ii, R1, rfl, hLb, hI, jb2⟩
            · refine v_bipush (pc := 99) (v := -5) dX11_first_99 (by decide) ?_
              exact v_iret (pc := 101) dX11_first_101 rfl rfl (Nat.le_of_ble_eq_true rfl) (Nat.le_of_ble_eq_true rfl) ⟨by first | omega | rfl | exact absurd rfl c96 | exact absurd c96 (nI_m5 _), Ii, R1, rfl, hLb, hI, jb2⟩
        · have hBf := VB_fp hB (show i < w_pr (b_n b) by omega)
          refine v_aload_n (pc := 48) dX11_first_48 rfl rfl ?_
          refine v_getH (pc := 49) fg_X11_21_11 dX11_first_49 (li_0 hL) (lr_0_2 hL) ?_
          refine v_iload (pc := 52) dX11_first_52 rfl ?_
          refine v_cv (pc := 54) (v_rV (c_X9_change G l hLb (Or.inr (Or.inr rfl)) (k := i) hvi.1.2.2.2.1 hB (by omega)) rfl kV_X11_181 (v_rcO (li_21 hL) rfl (by decide)) ⟨Nat.le_of_ble_eq_true rfl, Nat.le_of_ble_eq_true rfl⟩ ⟨Nat.le_of_ble_eq_true rfl, Nat.le_of_ble_eq_true rfl⟩ dX11_first_54 (Nat.le_of_ble_eq_true rfl)) (fun M54 h54 => ?_)
          obtain ⟨I5, rfl, k5⟩ := h54
          have hv5 : CV K I5 R1 21 (b_fp b i) hm p := CV_K hvi (Or.inr (Or.inr rfl)) k5 ⟨rfl, rfl, rfl, rfl, rfl⟩ hBf
          refine v_aload_n (pc := 57) dX11_first_57 rfl rfl ?_
          refine v_getH (pc := 58) fg_X11_21_11 dX11_first_58 (li_0 hL) (lr_0_2 hL) ?_
          refine v_ci (pc := 61) (v_rV (c_X9_howManyAmiss G l hLb (Or.inr (Or.inr rfl)) hv5) rfl kV_X11_168 (v_rcO (li_21 hL) rfl (by decide)) ⟨Nat.le_of_ble_eq_true rfl, Nat.le_of_ble_eq_true rfl⟩ ⟨Nat.le_of_ble_eq_true rfl, Nat.le_of_ble_eq_true rfl⟩ dX11_first_61 (Nat.le_of_ble_eq_true rfl)) (fun x61 M61 h61 => ?_)
          obtain ⟨rfl, I6, rfl, f6⟩ := h61
          have hv6 := CV_F hv5 (Or.inr (Or.inr rfl)) f6
          rw [ve_many (ve_now hBf (HF_n hf rfl))]
          refine v_istore (pc := 64) dX11_first_64 (by decide) rfl ?_
          refine v_aload_n (pc := 66) dX11_first_66 rfl rfl ?_
          refine v_getH (pc := 67) fg_X11_21_11 dX11_first_67 (li_0 hL) (lr_0_2 hL) ?_
          refine v_iload (pc := 70) dX11_first_70 rfl ?_
          refine v_cv (pc := 72) (v_rV (c_X9_change G l hLb (Or.inr (Or.inr rfl)) (k := i) hv6.1.2.2.2.1 hBf (by omega)) rfl kV_X11_181 (v_rcO (li_21 hL) rfl (by decide)) ⟨Nat.le_of_ble_eq_true rfl, Nat.le_of_ble_eq_true rfl⟩ ⟨Nat.le_of_ble_eq_true rfl, Nat.le_of_ble_eq_true rfl⟩ dX11_first_72 (Nat.le_of_ble_eq_true rfl)) (fun M72 h72 => ?_)
          obtain ⟨I7, rfl, k7⟩ := h72
          have k7b := cK_eq k7 (b_fp2 b (show i < 15 by omega))
          have hv7 : CV K I7 R1 21 b hm p := CV_K hv6 (Or.inr (Or.inr rfl)) k7b ⟨rfl, rfl, rfl, rfl, rfl⟩ hB
          have hI7 := cR_tr hI (cR_tr (cR_K k5) (cR_tr (cR_F2 f6) (cR_K k7)))
          have hmt := w_many_lt hBf 9 p
          have hlt := w_fst_lt (w_tr b p) (none, w_many (vw b 9 p)) 100 (by have := w_many_lt hB 9 p; show w_many _ < 100; omega) i (fun k hk => by have := w_many_lt (VB_fp hB (show k < w_pr (b_n b) by omega)) 9 p; show w_many _ < 100; omega)
          have ee : (w_fst (w_tr b p) (none, w_many (vw b 9 p)) (i + 1)) = if w_many (vw (b_fp b i) 9 p) < (w_fst (w_tr b p) (none, w_many (vw b 9 p)) i).2 then (some i, w_many (vw (b_fp b i) 9 p)) else (w_fst (w_tr b p) (none, w_many (vw b 9 p)) i) := rfl
          have goon := fun z => ih (i + 1) (by omega) (by omega) I7 z hI7 hv7
          rw [ee] at goon
          refine v_iload (pc := 75) dX11_first_75 rfl ?_
          refine v_iload_n (pc := 77) dX11_first_77 rfl rfl ?_
          refine v_icmp_geN (pc := 78) (tgt := 87) ⟨by omega, by omega⟩ dX11_first_78 (by decide) (fun c78 => ?_) (fun c78 => ?_)
          · refine v_iincN (pc := 87) (b := 1) dX11_first_87 rfl (by decide) (by decide) rfl ?_
            refine v_goto (pc := 90) (tgt := 36) dX11_first_90 (by decide) ?_
            first
              | (rw [if_pos (show w_many (vw (b_fp b i) 9 p) < (w_fst (w_tr b p) (none, w_many (vw b 9 p)) i).2 by omega)] at goon; exact goon _)
              | (rw [if_neg (show ¬ w_many (vw (b_fp b i) 9 p) < (w_fst (w_tr b p) (none, w_many (vw b 9 p)) i).2 by omega)] at goon; exact goon _)
          · refine v_iload (pc := 81) dX11_first_81 rfl ?_
            refine v_istore_n (pc := 83) dX11_first_83 rfl (by decide) rfl ?_
            refine v_iload (pc := 84) dX11_first_84 rfl ?_
            refine v_istore_n (pc := 86) dX11_first_86 rfl (by decide) rfl ?_
            refine v_iincN (pc := 87) (b := 1) dX11_first_87 rfl (by decide) (by decide) rfl ?_
            refine v_goto (pc := 90) (tgt := 36) dX11_first_90 (by decide) ?_
            first
              | (rw [if_pos (show w_many (vw (b_fp b i) 9 p) < (w_fst (w_tr b p) (none, w_many (vw b 9 p)) i).2 by omega)] at goon; exact goon _)
              | (rw [if_neg (show ¬ w_many (vw (b_fp b i) 9 p) < (w_fst (w_tr b p) (none, w_many (vw b 9 p)) i).2 by omega)] at goon; exact goon _)
      exact key 0 (Nat.zero_le _) I2 none j2 hv2
    · have e2 := x_n2 (Or.inr c6)
      refine v_iconst (pc := 9) (v := -1) dX11_first_9 (by decide) ?_
      exact v_iret (pc := 10) dX11_first_10 rfl rfl (Nat.le_of_ble_eq_true rfl) (Nat.le_of_ble_eq_true rfl) ⟨by simp only [s_first, s_best, e2], I, R, rfl, hL, cR_rf, cRR_rf⟩
