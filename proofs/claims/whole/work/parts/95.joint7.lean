/-! WHAT A CALL DOES TO THE STATE: town -/
theorem p_ci_7 (k : Nat) : p_ci k ≠ 7 := by
  unfold p_ci
  split <;> decide
theorem UPK_tr {K K' K'' : Nat × v_TY} (h : UPK K K') (h' : UPK K' K'') : UPK K K'' := ⟨Nat.le_trans h.1 h'.1, fun a k n q => h'.2 a k n (h.2 a k n q)⟩
section CALLS
variable {K : Nat × v_TY} {I : Nat → Nat → Int32} {J : Nat → Nat → Int64} {R : Nat → Nat → Option Nat} {g g' : ZS} {x : Int32} {M' : v_MM}
/-- no person lies in a town's rows -/
theorem PS_t {a k i kk w t : Nat} (h : PS K I a (p_ci k) i kk w) (hT : TH K R t) : a < t ∨ t + 5 < a := by
  refine Classical.byContradiction fun q => ?_
  have h2 := h.2.1.2
  obtain ⟨t0, ⟨t1, t2, t3, t4, t5⟩, -⟩ := hT
  rcases (show a = t ∨ a = t + 1 ∨ a = t + 2 ∨ a = t + 3 ∨ a = t + 4 ∨ a = t + 5 by omega) with rfl | rfl | rfl | rfl | rfl | rfl
  · have e := h2.symm.trans t0.2
    exact p_ci_7 k (Prod.mk.inj e).1
  · have e := h2.symm.trans t1.2
    exact absurd (Prod.mk.inj e).2 (by decide)
  · have e := h2.symm.trans t2.2
    exact absurd (Prod.mk.inj e).2 (by decide)
  · have e := h2.symm.trans t3.2
    exact absurd (Prod.mk.inj e).2 (by decide)
  · have e := h2.symm.trans t4.2
    exact absurd (Prod.mk.inj e).2 (by decide)
  · have e := h2.symm.trans t5.2
    exact absurd (Prod.mk.inj e).2 (by decide)
theorem CP_U {I' : Nat → Nat → Int32} {h t : Nat} {b : BS} (hP : CP K I R h b) (hT : TH K R t) (j : kU t I I') : CP K I' R h b := fun i hi => by
  obtain ⟨a, g1, g2⟩ := hP i hi
  exact ⟨a, g1, PS_o g2 (fun z => j a z (PS_t g2 hT))⟩
theorem ZW_U {I' : Nat → Nat → Int32} {h t : Nat} {u : VI} (hW : ZW K I R h u) (hh : h = 1 ∨ h = 11) (hT : TH K R t) (ht : ∀ t', R h 3 = some t' → t' + 5 < t) (j : kU t I I') : ZW K I' R h u := by
  obtain ⟨hm, h1, h2, h3, h4, h5⟩ := hW
  have h31 := hT.2.2.2
  have f : ∀ d z, d ≤ 8 → I' (h + d) z = I (h + d) z := fun d z hd => j _ _ (Or.inl (by rcases hh with rfl | rfl <;> omega))
  refine ⟨hm, ⟨⟨(f 0 _ (by omega)).trans h1.1.1, (f 0 _ (by omega)).trans h1.1.2.1, (f 0 _ (by omega)).trans h1.1.2.2.1, fun i hi => (f 2 _ (by omega)).trans (h1.1.2.2.2.1 i hi), fun i hi => (f 3 _ (by omega)).trans (h1.1.2.2.2.2 i hi)⟩, h1.2.1, h1.2.2.1, CP_U h1.2.2.2.1 hT j, ?_⟩, h2, fun i hi => (f 4 _ (by omega)).trans (h3 i hi), CWi_c h4 f, CBo_c h5 f⟩
  refine h1.2.2.2.2.elim Or.inl (fun ⟨t', q1, q2, q3⟩ => Or.inr ⟨t', q1, q2, TC_o q3 (fun a z l1 l2 => j a z (Or.inl ?_))⟩)
  have := ht t' q1
  omega
theorem ZI_U {I' : Nat → Nat → Int32} {t : Nat} {o : Option VI} (hI : ZI K I R o) (hT : TH K R t) (ht : ∀ t', R 11 3 = some t' → t' + 5 < t) (j : kU t I I') : ZI K I' R o := by
  have h31 := hT.2.2.2
  cases o with
  | none => exact ⟨(j _ _ (Or.inl (by omega))).trans hI.1, hI.2.choose, (j _ _ (Or.inl (by omega))).trans hI.2.choose_spec⟩
  | some u => exact ⟨(j _ _ (Or.inl (by omega))).trans hI.1, ZW_U hI.2 (Or.inr rfl) hT ht j⟩
def n_town (g : ZS) : Int32 × ZS := if st_t g = 6 then (-4, g) else match p_cs (st_x g) 10 0 [] with
  | (q, none) => (-10 - nI q, z_x g [])
  | (_, some p) => (nI (st_t g), ((u_b (st_u g), u_c (st_u g), p, u_w (st_u g), u_k (st_u g)), st_o g, st_t g + 1, [], st_p g, st_r g))
theorem C_town {t : Nat} (h : ZJ K I J R g) (hnt : R 0 4 = some t)
    (hp : (st_t g = 6 ∧ x = -4 ∧ M' = (K, I, J, R)) ∨ (st_t g < 6 ∧ ∃ q, p_cs (st_x g) 10 0 [] = (q, none) ∧ x = -10 - nI q ∧ ∃ I', M' = (K, v_u I' 0 7 (nI 0), J, R) ∧ kU t I I') ∨ (st_t g < 6 ∧ ∃ q p, p_cs (st_x g) 10 0 [] = (q, some p) ∧ x = nI (st_t g) ∧ ∃ I', kU t I I' ∧ TC I' t p ∧ M' = (kt5 (v_k K 7 0), v_u (zt (v_k K 7 0) (v_z (v_u I' 0 7 (nI 0)) K.1 0) 0) 0 5 (nI (st_t g + 1)), zt (v_k K 7 0) (v_z J K.1 0) 0, v_u (rt5 (v_k K 7 0) (v_z (v_u R 1 3 (some t)) K.1 none) K.1) 0 4 (some K.1)))) :
    ZCp K g (n_town g).2 (n_town g).1 x M' := by
  obtain ⟨hL, hK, hR, hW, hI, hA, ⟨tt, t1, t2, t3⟩, ⟨y1, ⟨y2, y3, y4⟩, y5, y6⟩⟩ := id h
  have ett : tt = t := Option.some.inj (t1.symm.trans hnt)
  subst ett
  have h31 := t2.2.2.2
  have hlt := TH_lt t2
  rcases hp with ⟨c1, rfl, rfl⟩ | ⟨c1, q, c2, rfl, I', rfl, j⟩ | ⟨c1, q, p, c2, rfl, I', j, hTC, rfl⟩
  · simp only [n_town, if_pos c1]; exact ZCp_s h
  · simp only [n_town, if_neg (Nat.ne_of_lt c1), c2]
    have f : ∀ a z, (a < 31 ∨ (36 < a ∧ a < 91)) → (a = 0 → z ≠ 7) → v_u I' 0 7 (nI 0) a z = I a z := fun a z l n => by
      simp only [v_u]
      rw [if_neg (by omega)]
      exact j a z (by omega)
    refine ⟨rfl, K, _, J, R, rfl, ZH_C h hL (Nat.le_refl _) (fun a z l1 l2 => f a z (by omega) (by omega)) (fun _ => rfl) ⟨ZW_c (ZW_U hW (Or.inl rfl) t2 (t3 1 (Or.inl rfl)) j) (Or.inl rfl) hK UPK_rf (fun a z _ q => v_u_h (by unfold cw at q; omega)) (fun _ _ _ _ => rfl), ZI_c (ZI_U hI t2 (t3 11 (Or.inr rfl)) j) hK UPK_rf (v_u_k (by omega)) (fun a z _ q => v_u_h (by unfold cw at q; omega)) (fun _ _ _ _ => rfl), hA, ⟨tt, t1, t2, t3⟩, ⟨(f _ _ (by omega) (by omega)).trans y1, ⟨v_u_same, (fun j c hj => by cases hj), fun j hj => ?_⟩, ⟨(f _ _ (by omega) (by omega)).trans y5.1, y5.2.1, fun j q hq => (f _ _ (by omega) (by omega)).trans (y5.2.2 j q hq)⟩, fun i hi => ⟨(f _ _ (by omega) (by omega)).trans (y6 i hi).1, (f _ _ (by omega) (by omega)).trans (y6 i hi).2.1, (y6 i hi).2.2⟩⟩⟩, by omega⟩
    obtain ⟨c, q1, q2⟩ := y4 j hj
    exact ⟨c, q1, (f 37 j (by omega) (by omega)).trans q2⟩
  · simp only [n_town, if_neg (Nat.ne_of_lt c1), c2]
    have up : UPK K (kt5 (v_k K 7 0)) := UPK_tr UPK_k (kt_u _)
    have fI : ∀ a z, a < K.1 → (a = 0 → z ≠ 5 ∧ z ≠ 7) → v_u (zt (v_k K 7 0) (v_z (v_u I' 0 7 (nI 0)) K.1 0) 0) 0 5 (nI (st_t g + 1)) a z = I' a z := fun a z l n => by
      have e : v_u (zt (v_k K 7 0) (v_z (v_u I' 0 7 (nI 0)) K.1 0) 0) 0 5 (nI (st_t g + 1)) a z = zt (v_k K 7 0) (v_z (v_u I' 0 7 (nI 0)) K.1 0) 0 a z := by
        simp only [v_u]; rw [if_neg (by omega)]
      rw [e, zt_o (by show a < K.1 + 1; omega), v_z_h (by omega)]
      simp only [v_u]; rw [if_neg (by omega)]
    have fR : ∀ a z, a < K.1 → (a = 0 → z ≠ 4) → (a = 1 → z ≠ 3) → v_u (rt5 (v_k K 7 0) (v_z (v_u R 1 3 (some tt)) K.1 none) K.1) 0 4 (some K.1) a z = R a z := fun a z l n n2 => by
      have e : v_u (rt5 (v_k K 7 0) (v_z (v_u R 1 3 (some tt)) K.1 none) K.1) 0 4 (some K.1) a z = rt5 (v_k K 7 0) (v_z (v_u R 1 3 (some tt)) K.1 none) K.1 a z := by
        simp only [v_u]; rw [if_neg (by omega)]
      rw [e, rt_o (by show a < K.1 + 1; omega) (by omega), v_z_h (by omega)]
      simp only [v_u]; rw [if_neg (by omega)]
    have fJ : ∀ a z, a < K.1 → zt (v_k K 7 0) (v_z J K.1 0) 0 a z = J a z := fun a z l => by rw [zt_o (by show a < K.1 + 1; omega), v_z_h (by omega)]
    have f : ∀ a z, (a < 31 ∨ (36 < a ∧ a < 91)) → (a = 0 → z ≠ 5 ∧ z ≠ 7) → v_u (zt (v_k K 7 0) (v_z (v_u I' 0 7 (nI 0)) K.1 0) 0) 0 5 (nI (st_t g + 1)) a z = I a z := fun a z l n => (fI a z (by omega) n).trans (j a z (by omega))
    have e13 : v_u (rt5 (v_k K 7 0) (v_z (v_u R 1 3 (some tt)) K.1 none) K.1) 0 4 (some K.1) 1 3 = some tt := by
      have e : v_u (rt5 (v_k K 7 0) (v_z (v_u R 1 3 (some tt)) K.1 none) K.1) 0 4 (some K.1) 1 3 = rt5 (v_k K 7 0) (v_z (v_u R 1 3 (some tt)) K.1 none) K.1 1 3 := v_u_h (by omega)
      rw [e, rt_o (by show 1 < K.1 + 1; omega) (by omega), v_z_h (by omega)]
      exact v_u_same
    have hL1 : Lay (kt5 (v_k K 7 0)) (rt5 (v_k K 7 0) (v_z (v_u R 1 3 (some tt)) K.1 none) K.1) := Lay_up (Lay_13 hL) up (fun a z l => by rw [rt_o (by show a < K.1 + 1; omega) (by omega), v_z_h (by omega)])
    have hTt : TH (kt5 (v_k K 7 0)) (v_u (rt5 (v_k K 7 0) (v_z (v_u R 1 3 (some tt)) K.1 none) K.1) 0 4 (some K.1)) tt := by
      have hq := TH_R t2 (R' := v_u (rt5 (v_k K 7 0) (v_z (v_u R 1 3 (some tt)) K.1 none) K.1) 0 4 (some K.1)) (fun z => fR tt z (by omega) (by omega) (by omega))
      exact ⟨up.2 _ _ _ hq.1, ⟨up.2 _ _ _ hq.2.1.1, up.2 _ _ _ hq.2.1.2.1, up.2 _ _ _ hq.2.1.2.2.1, up.2 _ _ _ hq.2.1.2.2.2.1, up.2 _ _ _ hq.2.1.2.2.2.2⟩, hq.2.2⟩
    refine ⟨rfl, _, _, _, _, rfl, ZH_C h (Lay_04 hL1) up.1 (fun a z l1 l2 => f a z (by omega) (by omega)) (fun z => fJ _ z (by omega)) ⟨?_, ?_, ⟨?_, ?_⟩, ?_, ?_⟩, by show K.1 + 6 ≤ K.1 + 6; omega⟩
    · obtain ⟨hm, h1, h2, h3, h4, h5⟩ := hW
      have fd : ∀ d z, d ≤ 8 → v_u (zt (v_k K 7 0) (v_z (v_u I' 0 7 (nI 0)) K.1 0) 0) 0 5 (nI (st_t g + 1)) (1 + d) z = I (1 + d) z := fun d z hd => f _ z (by omega) (by omega)
      refine ⟨hm, ⟨⟨(fd 0 _ (by omega)).trans h1.1.1, (fd 0 _ (by omega)).trans h1.1.2.1, (fd 0 _ (by omega)).trans h1.1.2.2.1, fun i hi => (fd 2 _ (by omega)).trans (h1.1.2.2.2.1 i hi), fun i hi => (fd 3 _ (by omega)).trans (h1.1.2.2.2.2 i hi)⟩, h1.2.1, h1.2.2.1, fun i hi => ?_, ?_⟩, h2, fun i hi => (fd 4 _ (by omega)).trans (h3 i hi), CWi_c h4 fd, CBo_c h5 fd⟩
      · obtain ⟨a, g1, g2⟩ := h1.2.2.2.1 i hi
        have ha : a < K.1 := g2.2.1.1
        have fa : ∀ z, v_u (zt (v_k K 7 0) (v_z (v_u I' 0 7 (nI 0)) K.1 0) 0) 0 5 (nI (st_t g + 1)) a z = I a z := fun z => (fI a z ha (by have := g2.1; omega)).trans (j a z (PS_t g2 t2))
        have g3 := PS_o g2 fa
        exact ⟨a, (fR _ _ (by omega) (by omega) (by omega)).trans g1, g3.1, up.2 _ _ _ g3.2.1, g3.2.2⟩
      · exact Or.inr ⟨tt, e13, hTt, TC_o hTC (fun a z l1 l2 => fI a z (by omega) (by omega))⟩
    · exact ZI_c (ZI_U hI t2 (t3 11 (Or.inr rfl)) j) hK up (fI 0 3 (by omega) (by omega)) (fun a z l q => fI a z l (by unfold cw at q; omega)) (fun a z l q => fR a z l (by omega) (by omega))
    · exact CPA_c hA.1 up (fun z => fR _ z (by omega) (by omega) (by omega))
    · exact CPA_c hA.2 up (fun z => fR _ z (by omega) (by omega) (by omega))
    · refine ⟨K.1, v_u_same, TH_R (TI_th v_is_new rfl (Or.inr hK)) (fun z => v_u_h (by omega)), fun k hk t' ht => ?_⟩
      rcases hk with rfl | rfl
      · rw [e13] at ht
        cases ht
        exact hlt
      · have := t3 11 (Or.inr rfl) t' ((fR 11 3 (by omega) (by omega) (by omega)).symm.trans ht)
        omega
    · refine ⟨v_u_same, ⟨?_, (fun j c hj => by cases hj), fun j hj => ?_⟩, ⟨(f _ _ (by omega) (by omega)).trans y5.1, y5.2.1, fun j q hq => (f _ _ (by omega) (by omega)).trans (y5.2.2 j q hq)⟩, fun i hi => ⟨(f _ _ (by omega) (by omega)).trans (y6 i hi).1, (f _ _ (by omega) (by omega)).trans (y6 i hi).2.1, fun j hj => (fJ _ _ (by omega)).trans ((y6 i hi).2.2 j hj)⟩⟩
      · show _ = nI 0
        rw [v_u_k (by omega), zt_o (by show 0 < K.1 + 1; omega), v_z_h (by omega)]
        exact v_u_same
      · obtain ⟨c, q1, q2⟩ := y4 j hj
        exact ⟨c, q1, (f 37 j (by omega) (by omega)).trans q2⟩
theorem M_town (h : ZH K I J R g (n_town g).2)
    (hp : (st_t g = 6 ∧ x = -4 ∧ M' = (K, I, J, R)) ∨ (st_t g < 6 ∧ ∃ q, p_cs (st_x g) 10 0 [] = (q, none) ∧ x = -10 - nI q ∧ ∃ I', M' = (K, v_u I' 55 10 (nI 0), J, R) ∧ mF (st_t g) I I') ∨ (st_t g < 6 ∧ ∃ q p, p_cs (st_x g) 10 0 [] = (q, some p) ∧ x = nI (st_t g) ∧ ∃ I', M' = (K, v_u (v_u (v_u I' 55 10 (nI 0)) 55 9 (nI (st_t g))) 55 8 (nI (st_t g + 1)), J, R) ∧ mF (st_t g) I I' ∧ MPt I' (st_t g) p)) :
    ZMp K R (n_town g).2 (n_town g).1 x M' := by
  have hR := h.2.2.1
  obtain ⟨hx, hl0, ht, hr, hp0, hv⟩ := hR.2.2
  have h6 := ht.2
  rcases hp with ⟨c1, rfl, rfl⟩ | ⟨c1, q, c2, rfl, I', rfl, j⟩ | ⟨c1, q, p, c2, rfl, I', rfl, j, hp⟩
  · simp only [n_town, if_pos c1] at h ⊢; exact ZMp_s h
  · simp only [n_town, if_neg (Nat.ne_of_lt c1), c2] at h ⊢
    have f : ∀ a z, ¬ m_pf (st_t g) a z → (a = 55 → z ≠ 10) → v_u I' 55 10 (nI 0) a z = I a z := fun a z l n => by
      simp only [v_u]
      rw [if_neg (by omega)]
      exact j a z l
    exact ⟨rfl, _, J, rfl, ZH_M h (fun a z q => f a z (by unfold m_pf; omega) (by omega)) (fun _ _ _ => rfl) ⟨MVI_c (t := st_t g) hR.1 h6 (fun a z q => f a z (by unfold m_v m_tw at q; unfold m_pf; omega) (by unfold m_v m_tw at q; omega)), ZO_c (t := st_t g) hR.2.1 h6 (fun a z q => f a z (by unfold m_o m_tw at q; unfold m_pf; omega) (by unfold m_o m_tw at q; omega)), ⟨v_u_same, Nat.zero_le _, (fun j c hj => by cases hj)⟩, fun i c hi => (f 69 i (by unfold m_pf; omega) (by omega)).trans (hl0 i c hi), ⟨(f 55 8 (by unfold m_pf; omega) (by omega)).trans ht.1, ht.2⟩, ⟨(f 55 55 (by unfold m_pf; omega) (by omega)).trans hr.1, hr.2.1, fun i q hq => (f 86 i (by unfold m_pf; omega) (by omega)).trans (hr.2.2 i q hq)⟩, fun i hi => ⟨(f 87 i (by unfold m_pf; omega) (by omega)).trans (hp0 i hi).1, (f 88 i (by unfold m_pf; omega) (by omega)).trans (hp0 i hi).2.1, (hp0 i hi).2.2⟩, hv⟩⟩
  · simp only [n_town, if_neg (Nat.ne_of_lt c1), c2] at h ⊢
    have f' : ∀ a z, (a = 55 → z ≠ 8 ∧ z ≠ 9 ∧ z ≠ 10) → v_u (v_u (v_u I' 55 10 (nI 0)) 55 9 (nI (st_t g))) 55 8 (nI (st_t g + 1)) a z = I' a z := fun a z n => by
      simp only [v_u]
      rw [if_neg (by omega), if_neg (by omega), if_neg (by omega)]
    have f : ∀ a z, ¬ m_pf (st_t g) a z → (a = 55 → z ≠ 8 ∧ z ≠ 9 ∧ z ≠ 10) → v_u (v_u (v_u I' 55 10 (nI 0)) 55 9 (nI (st_t g))) 55 8 (nI (st_t g + 1)) a z = I a z := fun a z l n => (f' a z n).trans (j a z l)
    have e9 : v_u (v_u (v_u I' 55 10 (nI 0)) 55 9 (nI (st_t g))) 55 8 (nI (st_t g + 1)) 55 9 = nI (st_t g) := by rw [v_u_k (by omega)]; exact v_u_same
    have e10 : v_u (v_u (v_u I' 55 10 (nI 0)) 55 9 (nI (st_t g))) 55 8 (nI (st_t g + 1)) 55 10 = nI 0 := by rw [v_u_k (by omega), v_u_k (by omega)]; exact v_u_same
    obtain ⟨⟨⟨⟨b0, b1, b2, b3, b4, b5⟩, bv, bg⟩, bp⟩, ho, hc, h9, hw, hk⟩ := hR.1
    obtain ⟨p1, p2, p3, p4⟩ := hp
    have n55 : ∀ z, (z = 0 ∨ z = 1 ∨ z = 2 ∨ z = 34 ∨ z = 35) → v_u (v_u (v_u I' 55 10 (nI 0)) 55 9 (nI (st_t g))) 55 8 (nI (st_t g + 1)) 55 z = I 55 z := fun z hz => f 55 z (by unfold m_pf; omega) (by omega)
    have na : ∀ a z, a ≠ 55 → (a < 62 ∨ 68 < a) → v_u (v_u (v_u I' 55 10 (nI 0)) 55 9 (nI (st_t g))) 55 8 (nI (st_t g + 1)) a z = I a z := fun a z n l => f a z (by unfold m_pf; omega) (by omega)
    refine ⟨rfl, _, J, rfl, ZH_M h (fun a z q => f a z (by unfold m_pf; omega) (by omega)) (fun _ _ _ => rfl) ⟨⟨⟨⟨⟨(n55 0 (by omega)).trans b0, (n55 1 (by omega)).trans b1, fun i hi => (na 56 i (by omega) (by omega)).trans (b2 i hi), fun i hi => (na 57 i (by omega) (by omega)).trans (b3 i hi), fun i hi => (na 58 i (by omega) (by omega)).trans (b4 i hi), fun i hi => (na 59 i (by omega) (by omega)).trans (b5 i hi)⟩, bv, ?_⟩, Or.inr ⟨st_t g, e9, p1, p2, (f' 62 _ (by omega)).trans p3, fun c q hq => ?_⟩⟩, ho, fun i hi => (na 60 i (by omega) (by omega)).trans (hc i hi), Or.inr ⟨st_t g, Nat.lt_succ_self _, e9⟩, ⟨(n55 34 (by omega)).trans hw.1, fun i q hq => ⟨(na 73 i (by omega) (by omega)).trans (hw.2 i q hq).1, (na 76 i (by omega) (by omega)).trans (hw.2 i q hq).2⟩⟩, ⟨(n55 35 (by omega)).trans hk.1, fun i q hq => ⟨(na 74 i (by omega) (by omega)).trans (hk.2 i q hq).1, (na 75 i (by omega) (by omega)).trans (hk.2 i q hq).2⟩⟩⟩, ZO_t (ZO_c (t := st_t g) hR.2.1 h6 (fun a z q => f a z (by unfold m_o m_tw at q; unfold m_pf; omega) (by unfold m_o m_tw at q; omega))) (Nat.le_succ _), ⟨e10, Nat.zero_le _, (fun j c hj => by cases hj)⟩, fun i c hi => (na 69 i (by omega) (by omega)).trans (hl0 i c hi), ⟨v_u_same, by show st_t g + 1 ≤ 6; omega⟩, ⟨(f 55 55 (by unfold m_pf; omega) (by omega)).trans hr.1, hr.2.1, fun i q hq => (na 86 i (by omega) (by omega)).trans (hr.2.2 i q hq)⟩, fun i hi => ⟨(na 87 i (by omega) (by omega)).trans (hp0 i hi).1, (na 88 i (by omega) (by omega)).trans (hp0 i hi).2.1, (hp0 i hi).2.2⟩, hv⟩⟩
    · unfold MG
      rw [n55 2 (by omega)]
      exact bg
    · obtain ⟨r1, r2, s, r3, r4, r5, r6⟩ := p4 c q hq
      exact ⟨(f' 63 _ (by omega)).trans r1, (f' 64 _ (by omega)).trans r2, s, (f' 65 _ (by omega)).trans r3, (f' 66 _ (by omega)).trans r4, r5, fun i k hi => (f' 67 _ (by omega)).trans (r6 i k hi)⟩
end CALLS
