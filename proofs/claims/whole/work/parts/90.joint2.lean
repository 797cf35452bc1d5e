/-! what of the CLASS's memory speaks of the state -/
def cw (h a : Nat) : Prop := (h ≤ a ∧ a ≤ h + 8) ∨ (31 ≤ a ∧ a ≤ 36) ∨ 91 ≤ a
theorem CV_c {K K' : Nat × v_TY} {I I' : Nat → Nat → Int32} {R R' : Nat → Nat → Option Nat} {h hm : Nat} {b : BS} {p : CLS} (hv : CV K I R h b hm p) (hh : h = 1 ∨ h = 11) (hK : 91 ≤ K.1) (u : UPK K K') (e1 : ∀ a z, a < K.1 → cw h a → I' a z = I a z) (e2 : ∀ a z, a < K.1 → (a = h ∨ a = h + 1 ∨ a = 31 ∨ 91 ≤ a) → R' a z = R a z) : CV K' I' R' h b hm p := by
  have hl : h + 9 < K.1 := by rcases hh with rfl | rfl <;> omega
  have f : ∀ d z, d ≤ 8 → I' (h + d) z = I (h + d) z := fun d z hd => e1 _ _ (by omega) (Or.inl ⟨by omega, by omega⟩)
  refine ⟨⟨(f 0 _ (by decide)).trans hv.1.1, (f 0 _ (by decide)).trans hv.1.2.1, (f 0 _ (by decide)).trans hv.1.2.2.1, fun i hi => (f 2 _ (by decide)).trans (hv.1.2.2.2.1 i hi), fun j hj => (f 3 _ (by decide)).trans (hv.1.2.2.2.2 j hj)⟩, hv.2.1, hv.2.2.1, fun i hi => ?_, ?_⟩
  · obtain ⟨a, g1, g2⟩ := hv.2.2.2.1 i hi
    have ha : a < K.1 := g2.2.1.1
    have fa : ∀ z, I' a z = I a z := fun z => e1 a z ha (Or.inr (Or.inr g2.1))
    exact ⟨a, (e2 _ _ (by omega) (Or.inr (Or.inl rfl))).trans g1, g2.1, u.2 _ _ _ g2.2.1, (fa _).trans g2.2.2.1, (fa _).trans g2.2.2.2.1, (fa _).trans g2.2.2.2.2⟩
  · rw [e2 _ _ (by omega) (Or.inl rfl)]
    refine hv.2.2.2.2.elim Or.inl (fun ⟨t, h1, h2, h3⟩ => Or.inr ⟨t, h1, ?_, ?_⟩)
    · have hlt := TH_lt h2
      have ht := h2.2.2.2
      have hR := TH_R h2 (R' := R') (fun z => e2 t z (by omega) (by omega))
      exact ⟨u.2 _ _ _ hR.1, ⟨u.2 _ _ _ hR.2.1.1, u.2 _ _ _ hR.2.1.2.1, u.2 _ _ _ hR.2.1.2.2.1, u.2 _ _ _ hR.2.1.2.2.2.1, u.2 _ _ _ hR.2.1.2.2.2.2⟩, hR.2.2⟩
    · have hlt := TH_lt h2
      have ht := h2.2.2.2
      exact TC_o h3 (fun a z l1 l2 => e1 a z (by omega) (by unfold cw; omega))
/-- a village whose own rows alone have changed -/
theorem CV_n {K : Nat × v_TY} {I I' : Nat → Nat → Int32} {R : Nat → Nat → Option Nat} {h hm : Nat} {b b' : BS} {p : CLS} (hv : CV K I R h b hm p) (hh : h = 1 ∨ h = 11) (hc : CB0 I' h b' hm) (hB : VB b') (e : b_n b' = b_n b ∧ b_k b' = b_k b ∧ b_v b' = b_v b) (f : ∀ a z, (31 ≤ a ∧ a ≤ 36) ∨ 91 ≤ a → I' a z = I a z) : CV K I' R h b' hm p := by
  refine ⟨hc, hB, ⟨hv.2.2.1.1, fun j hj => by rw [e.1]; exact hv.2.2.1.2 j hj⟩, fun i hi => ?_, TN_o hv.2.2.2.2 (fun a z l1 l2 => f a z (by omega)) (fun a z _ => rfl)⟩
  rw [e.1] at hi
  obtain ⟨a, g1, g2⟩ := hv.2.2.2.1 i hi
  rw [e.2.1, e.2.2]
  exact ⟨a, g1, PS_o g2 (fun z => f a z (Or.inr g2.1))⟩
/-- the class's village -/
def ZW (K : Nat × v_TY) (I : Nat → Nat → Int32) (R : Nat → Nat → Option Nat) (h : Nat) (u : VI) : Prop := ∃ hm, CV K I R h (u_b u) hm (u_p u) ∧ HF (u_b u) hm ∧ (∀ i, i < 6 → I (h + 4) i = nI (u_c u i)) ∧ CWi I h (u_w u) ∧ CBo I h (u_k u)
theorem CWi_c {I I' : Nat → Nat → Int32} {h : Nat} {w : List (Nat × Bool)} (hw : CWi I h w) (f : ∀ d z, d ≤ 8 → I' (h + d) z = I (h + d) z) : CWi I' h w := ⟨(f 0 _ (by decide)).trans hw.1, fun j q hq => ⟨(f 5 _ (by decide)).trans (hw.2 j q hq).1, (f 6 _ (by decide)).trans (hw.2 j q hq).2⟩⟩
theorem CBo_c {I I' : Nat → Nat → Int32} {h : Nat} {w : List (Nat × Nat)} (hw : CBo I h w) (f : ∀ d z, d ≤ 8 → I' (h + d) z = I (h + d) z) : CBo I' h w := ⟨(f 0 _ (by decide)).trans hw.1, fun j q hq => ⟨(f 7 _ (by decide)).trans (hw.2 j q hq).1, (f 8 _ (by decide)).trans (hw.2 j q hq).2⟩⟩
theorem ZW_c {K K' : Nat × v_TY} {I I' : Nat → Nat → Int32} {R R' : Nat → Nat → Option Nat} {h : Nat} {u : VI} (hv : ZW K I R h u) (hh : h = 1 ∨ h = 11) (hK : 91 ≤ K.1) (up : UPK K K') (e1 : ∀ a z, a < K.1 → cw h a → I' a z = I a z) (e2 : ∀ a z, a < K.1 → (a = h ∨ a = h + 1 ∨ a = 31 ∨ 91 ≤ a) → R' a z = R a z) : ZW K' I' R' h u := by
  obtain ⟨hm, h1, h2, h3, h4, h5⟩ := hv
  have f : ∀ d z, d ≤ 8 → I' (h + d) z = I (h + d) z := fun d z hd => e1 _ _ (by rcases hh with rfl | rfl <;> omega) (Or.inl ⟨by omega, by omega⟩)
  exact ⟨hm, CV_c h1 hh hK up e1 e2, h2, fun i hi => (f 4 _ (by decide)).trans (h3 i hi), CWi_c h4 f, CBo_c h5 f⟩
def ZI (K : Nat × v_TY) (I : Nat → Nat → Int32) (R : Nat → Nat → Option Nat) : Option VI → Prop
  | none => I 0 3 = 0 ∧ ∃ n, I 11 0 = nI n
  | some u => I 0 3 = nI 1 ∧ ZW K I R 11 u
theorem ZI_c {K K' : Nat × v_TY} {I I' : Nat → Nat → Int32} {R R' : Nat → Nat → Option Nat} {o : Option VI} (hv : ZI K I R o) (hK : 91 ≤ K.1) (up : UPK K K') (e0 : I' 0 3 = I 0 3) (e1 : ∀ a z, a < K.1 → cw 11 a → I' a z = I a z) (e2 : ∀ a z, a < K.1 → (a = 11 ∨ a = 12 ∨ a = 31 ∨ 91 ≤ a) → R' a z = R a z) : ZI K' I' R' o := by
  cases o with
  | none => exact ⟨e0.trans hv.1, hv.2.choose, (e1 11 0 (by omega) (Or.inl ⟨by decide, by decide⟩)).trans hv.2.choose_spec⟩
  | some u => exact ⟨e0.trans hv.1, ZW_c hv.2 (Or.inr rfl) hK up e1 e2⟩
theorem CPA_c {K K' : Nat × v_TY} {R R' : Nat → Nat → Option Nat} {h : Nat} (hA : CPA K R h) (up : UPK K K') (e : ∀ z, R' (h + 1) z = R (h + 1) z) : CPA K' R' h := fun i hi a ha => by
  obtain ⟨q1, ci, q2, q3⟩ := hA i hi a ((e i).symm.trans ha)
  exact ⟨q1, ci, up.2 _ _ _ q2, q3⟩
/-- the town that is read next, and the others ahead of it -/
def ZT (K : Nat × v_TY) (R : Nat → Nat → Option Nat) : Prop := ∃ tt, R 0 4 = some tt ∧ TH K R tt ∧ ∀ h, h = 1 ∨ h = 11 → ∀ t', R h 3 = some t' → t' + 5 < tt
theorem ZT_c {K K' : Nat × v_TY} {R R' : Nat → Nat → Option Nat} (hT : ZT K R) (up : UPK K K') (e : ∀ z, R' 0 z = R 0 z) (e1 : R' 1 3 = R 1 3) (e11 : R' 11 3 = R 11 3) (e2 : ∀ a z, a < K.1 → (a = 31 ∨ 91 ≤ a) → R' a z = R a z) : ZT K' R' := by
  obtain ⟨tt, h1, h2, h3⟩ := hT
  have hlt := TH_lt h2
  have hR := TH_R h2 (R' := R') (fun z => e2 tt z (by omega) h2.2.2.2)
  refine ⟨tt, (e 4).trans h1, ⟨up.2 _ _ _ hR.1, ⟨up.2 _ _ _ hR.2.1.1, up.2 _ _ _ hR.2.1.2.1, up.2 _ _ _ hR.2.1.2.2.1, up.2 _ _ _ hR.2.1.2.2.2.1, up.2 _ _ _ hR.2.1.2.2.2.2⟩, hR.2.2⟩, fun h hh t' ht => h3 h hh t' ?_⟩
  rcases hh with rfl | rfl
  · exact e1.symm.trans ht
  · exact e11.symm.trans ht
/-- the class's other cells -/
def ZY (I : Nat → Nat → Int32) (J : Nat → Nat → Int64) (g : ZS) : Prop := I 0 5 = nI (st_t g) ∧ (I 0 7 = nI (st_x g).length ∧ (∀ (j c : Nat), (st_x g)[j]? = some c → I 37 j = nI c ∧ c < 128) ∧ ∀ j, j < 100 → ∃ c, c < 128 ∧ I 37 j = nI c) ∧ CTr I (st_r g) ∧ CTp I J (st_p g)
def m_y (a z : Nat) : Prop := (a = 0 ∧ (z = 5 ∨ z = 7)) ∨ a = 37 ∨ (a = 39 ∧ z = 1) ∨ a = 40 ∨ (43 ≤ a ∧ a ≤ 54)
theorem ZY_c {I I' : Nat → Nat → Int32} {J J' : Nat → Nat → Int64} {g : ZS} (h : ZY I J g) (e : ∀ a z, m_y a z → I' a z = I a z) (eJ : ∀ a z, 43 ≤ a → a ≤ 54 → J' a z = J a z) : ZY I' J' g := by
  obtain ⟨h1, ⟨h2, h3, h4⟩, h5, h6⟩ := h
  have f0 : ∀ z, (z = 5 ∨ z = 7) → I' 0 z = I 0 z := fun z hz => e 0 z (Or.inl ⟨rfl, hz⟩)
  have f37 : ∀ z, I' 37 z = I 37 z := fun z => e 37 z (Or.inr (Or.inl rfl))
  have f43 : ∀ a z, 43 ≤ a → a ≤ 54 → I' a z = I a z := fun a z q1 q2 => e a z (Or.inr (Or.inr (Or.inr (Or.inr ⟨q1, q2⟩))))
  refine ⟨(f0 5 (by decide)).trans h1, ⟨(f0 7 (by decide)).trans h2, fun j c hj => ⟨(f37 j).trans (h3 j c hj).1, (h3 j c hj).2⟩, fun j hj => ?_⟩, ⟨(e 39 1 (Or.inr (Or.inr (Or.inl ⟨rfl, rfl⟩)))).trans h5.1, h5.2.1, fun j x hj => (e 40 j (Or.inr (Or.inr (Or.inr (Or.inl rfl))))).trans (h5.2.2 j x hj)⟩, fun i hi => ⟨(f43 _ _ (by omega) (by omega)).trans (h6 i hi).1, (f43 _ _ (by omega) (by omega)).trans (h6 i hi).2.1, fun j hj => (eJ _ _ (by omega) (by omega)).trans ((h6 i hi).2.2 j hj)⟩⟩
  obtain ⟨c, q1, q2⟩ := h4 j hj
  exact ⟨c, q1, (f37 j).trans q2⟩
def ZC (K : Nat × v_TY) (I : Nat → Nat → Int32) (J : Nat → Nat → Int64) (R : Nat → Nat → Option Nat) (g : ZS) : Prop := ZW K I R 1 (st_u g) ∧ ZI K I R (st_o g) ∧ (CPA K R 1 ∧ CPA K R 11) ∧ ZT K R ∧ ZY I J g
theorem ZC_c {K K' : Nat × v_TY} {I I' : Nat → Nat → Int32} {J J' : Nat → Nat → Int64} {R R' : Nat → Nat → Option Nat} {g : ZS} (h : ZC K I J R g) (hK : 91 ≤ K.1) (up : UPK K K') (e : ∀ a z, a < K.1 → (a < 55 ∨ 91 ≤ a) → ¬ m_cr a → I' a z = I a z) (eJ : ∀ a z, 43 ≤ a → a ≤ 54 → J' a z = J a z) (e2 : ∀ a z, a < K.1 → a ≠ 21 → a ≠ 22 → R' a z = R a z) : ZC K' I' J' R' g := by
  obtain ⟨h1, h2, h3, h4, h5⟩ := h
  refine ⟨ZW_c h1 (Or.inl rfl) hK up (fun a z l q => e a z l ?_ ?_) (fun a z l q => e2 a z l (by omega) (by omega)), ZI_c h2 hK up (e 0 3 (by omega) (by decide) (by unfold m_cr; omega)) (fun a z l q => e a z l ?_ ?_) (fun a z l q => e2 a z l (by omega) (by omega)), ⟨CPA_c h3.1 up (fun z => e2 _ z (by omega) (by decide) (by decide)), CPA_c h3.2 up (fun z => e2 _ z (by omega) (by decide) (by decide))⟩, ZT_c h4 up (fun z => e2 _ z (by omega) (by decide) (by decide)) (e2 _ _ (by omega) (by decide) (by decide)) (e2 _ _ (by omega) (by decide) (by decide)) (fun a z l q => e2 a z l (by omega) (by omega)), ZY_c h5 (fun a z q => by
    have q : (a = 0 ∧ (z = 5 ∨ z = 7)) ∨ a = 37 ∨ (a = 39 ∧ z = 1) ∨ a = 40 ∨ (43 ≤ a ∧ a ≤ 54) := q
    exact e a z (by omega) (by omega) (by unfold m_cr; omega)) eJ⟩
  all_goals unfold cw at q
  all_goals first | omega | (unfold m_cr; omega)
/-- half way, and both -/
def ZH (K : Nat × v_TY) (I : Nat → Nat → Int32) (J : Nat → Nat → Int64) (R : Nat → Nat → Option Nat) (g g' : ZS) : Prop := Lay K R ∧ 91 ≤ K.1 ∧ ZR I J g ∧ ZC K I J R g'
def ZJ (K : Nat × v_TY) (I : Nat → Nat → Int32) (J : Nat → Nat → Int64) (R : Nat → Nat → Option Nat) (g : ZS) : Prop := ZH K I J R g g
/-- the class reads -/
theorem ZH_F {K : Nat × v_TY} {I I' : Nat → Nat → Int32} {J : Nat → Nat → Int64} {R : Nat → Nat → Option Nat} {g g' : ZS} (h : ZH K I J R g g') (j : cF 1 I I') : ZH K I' J R g g' := ⟨h.1, h.2.1, ZR_c h.2.2.1 (fun a z _ _ _ => j a z (by omega)) (fun _ => rfl), ZC_c h.2.2.2 h.2.1 UPK_rf (fun a z _ _ n => j a z (fun q => n (Or.inl q))) (fun _ _ _ _ => rfl) (fun _ _ _ _ _ => rfl)⟩
theorem ZH_R {K : Nat × v_TY} {I I' : Nat → Nat → Int32} {J : Nat → Nat → Int64} {R R' : Nat → Nat → Option Nat} {g g' : ZS} (h : ZH K I J R g g') (hL : Lay K R') (j : cR I I') (j2 : cRR R R') : ZH K I' J R' g g' := ⟨hL, h.2.1, ZR_c h.2.2.1 (fun a z _ _ _ => j a z (by unfold m_cr; omega)) (fun _ => rfl), ZC_c h.2.2.2 h.2.1 UPK_rf (fun a z _ _ n => j a z n) (fun _ _ _ _ => rfl) (fun a z _ n1 n2 => j2 a z n1 n2)⟩
/-- the reference reads -/
theorem ZH_J {K : Nat × v_TY} {I I' : Nat → Nat → Int32} {J : Nat → Nat → Int64} {R : Nat → Nat → Option Nat} {g g' : ZS} (h : ZH K I J R g g') (j : mJ I I') : ZH K I' J R g g' := ⟨h.1, h.2.1, ZR_J h.2.2.1 j, ZC_c h.2.2.2 h.2.1 UPK_rf (fun a z _ q _ => j a z (fun w => by unfold m_jk at w; omega)) (fun _ _ _ _ => rfl) (fun _ _ _ _ _ => rfl)⟩
/-- the class's own change; the reference's -/
theorem ZH_C {K K' : Nat × v_TY} {I I' : Nat → Nat → Int32} {J J' : Nat → Nat → Int64} {R R' : Nat → Nat → Option Nat} {g g' : ZS} (h : ZJ K I J R g) (hL : Lay K' R') (hK : K.1 ≤ K'.1) (e : ∀ a z, 55 ≤ a → a ≤ 90 → I' a z = I a z) (eJ : ∀ z, J' 89 z = J 89 z) (hC : ZC K' I' J' R' g') : ZH K' I' J' R' g g' := ⟨hL, Nat.le_trans h.2.1 hK, ZR_c h.2.2.1 (fun a z l1 l2 _ => e a z l1 l2) eJ, hC⟩
theorem ZH_M {K : Nat × v_TY} {I I' : Nat → Nat → Int32} {J J' : Nat → Nat → Int64} {R : Nat → Nat → Option Nat} {g g' : ZS} (h : ZH K I J R g g') (e : ∀ a z, (a < 55 ∨ 90 < a) → I' a z = I a z) (eJ : ∀ a z, (a < 55 ∨ 90 < a) → J' a z = J a z) (hR : ZR I' J' g') : ZJ K I' J' R g' := ⟨h.1, h.2.1, hR, ZC_c h.2.2.2 h.2.1 UPK_rf (fun a z _ q _ => e a z (by omega)) (fun a z _ _ => eJ a z (by omega)) (fun _ _ _ _ _ => rfl)⟩
