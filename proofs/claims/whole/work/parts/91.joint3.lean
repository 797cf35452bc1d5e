/-! WHAT A CALL DOES TO THE STATE: the village's own calls -/
theorem v_Mi {G : v_G} {l : Launch} {y : MethodName} {cc : ByteArray} {nL : Nat} {rt : Option FieldType} {Z : Room} {av : List Value} {M : v_MM} {Post Post' : Int32 → v_MM → Prop} (hM : v_M G l y cc nL rt Z av M (v_Qi G Post)) (h : ∀ x M', Post x M' → Post' x M') : v_M G l y cc nL rt Z av M (v_Qi G Post') := by
  intro p e ha hf hc s m args below h1 h2 h3 h4
  obtain ⟨n, o, a1, a2, a3, ⟨⟨⟨r, u, b1, b2, b3⟩, b4⟩, b5⟩⟩ := hM p e ha hf hc s m args below h1 h2 h3 h4
  exact ⟨n, o, a1, a2, a3, ⟨⟨⟨r, u, b1, h r u b2, b3⟩, b4⟩, b5⟩⟩
theorem v_Ml {G : v_G} {l : Launch} {y : MethodName} {cc : ByteArray} {nL : Nat} {rt : Option FieldType} {Z : Room} {av : List Value} {M : v_MM} {Post Post' : Int64 → v_MM → Prop} (hM : v_M G l y cc nL rt Z av M (v_Ql G Post)) (h : ∀ x M', Post x M' → Post' x M') : v_M G l y cc nL rt Z av M (v_Ql G Post') := by
  intro p e ha hf hc s m args below h1 h2 h3 h4
  obtain ⟨n, o, a1, a2, a3, ⟨⟨⟨r, u, b1, b2, b3⟩, b4⟩, b5⟩⟩ := hM p e ha hf hc s m args below h1 h2 h3 h4
  exact ⟨n, o, a1, a2, a3, ⟨⟨⟨r, u, b1, h r u b2, b3⟩, b4⟩, b5⟩⟩
/-- behind the class's call, behind the reference's -/
def ZCp {α : Type} (K : Nat × v_TY) (g g' : ZS) (A : α) (x : α) (M' : v_MM) : Prop := x = A ∧ ∃ K' I' J' R', M' = (K', I', J', R') ∧ ZH K' I' J' R' g g' ∧ K'.1 ≤ K.1 + 6
def ZMp {α : Type} (K : Nat × v_TY) (R : Nat → Nat → Option Nat) (g' : ZS) (A : α) (x : α) (M' : v_MM) : Prop := x = A ∧ ∃ I' J', M' = (K, I', J', R) ∧ ZJ K I' J' R g'
section CALLS
variable {K : Nat × v_TY} {I : Nat → Nat → Int32} {J : Nat → Nat → Int64} {R : Nat → Nat → Option Nat} {g g' : ZS} {x : Int32} {M' : v_MM}
theorem ZCp_s {α : Type} {A : α} (h : ZJ K I J R g) : ZCp K g g A A (K, I, J, R) := ⟨rfl, K, I, J, R, rfl, h, by omega⟩
theorem ZMp_s {α : Type} {A : α} (h : ZH K I J R g g) : ZMp K R g A A (K, I, J, R) := ⟨rfl, I, J, rfl, h⟩
def z_u (g : ZS) (u : VI) : ZS := (u, g.2)
theorem ZR_u {I' : Nat → Nat → Int32} {u : VI} (h : ZR I J g) (hM : MVI I' (st_t g) u) (e : ∀ a z, (m_o (st_t g) a z ∨ m_x a z) → I' a z = I a z) : ZR I' J (z_u g u) :=
  ⟨hM, ZO_c h.2.1 h.2.2.2.2.1.2 (fun a z q => e a z (Or.inl q)), ZX_c h.2.2 (fun a z q => e a z (Or.inr q)) (fun _ => rfl)⟩
theorem ZC_u {I' : Nat → Nat → Int32} {u : VI} (h : ZC K I J R g) (hK : 91 ≤ K.1) (hW : ZW K I' R 1 u) (e : ∀ a z, ¬ (1 ≤ a ∧ a ≤ 9) → I' a z = I a z) : ZC K I' J R (z_u g u) :=
  ⟨hW, ZI_c h.2.1 hK UPK_rf (e 0 3 (by omega)) (fun a z _ q => e a z (by unfold cw at q; omega)) (fun _ _ _ _ => rfl), h.2.2.1, h.2.2.2.1, ZY_c h.2.2.2.2 (fun a z q => e a z (by unfold m_y at q; omega)) (fun _ _ _ _ => rfl)⟩
theorem MP_e {I' : Nat → Nat → Int32} {p : CLS} (h : MP I p) (e : ∀ a z, (a = 55 ∧ z = 9) ∨ (62 ≤ a ∧ a ≤ 67) → I' a z = I a z) : MP I' p := by
  unfold MP
  rw [e 55 9 (by omega)]
  refine h.elim Or.inl (fun ⟨q, q1, q2, q3, q4, q5⟩ => Or.inr ⟨q, q1, q2, q3, (e _ _ (by omega)).trans q4, fun c y hc => ?_⟩)
  obtain ⟨r1, r2, s, r3, r4, r5, r6⟩ := q5 c y hc
  exact ⟨(e _ _ (by omega)).trans r1, (e _ _ (by omega)).trans r2, s, (e _ _ (by omega)).trans r3, (e _ _ (by omega)).trans r4, r5, fun j k hj => (e _ _ (by omega)).trans (r6 j k hj)⟩
/-- the reference's village, its base changed -/
theorem MVI_b {I' : Nat → Nat → Int32} {t : Nat} {u : VI} {b' : BS} (h : MVI I t u) (hW : MW I' b' 9 (u_p u)) (hO : OV (b', u.2)) (e : ∀ a z, (a = 60 ∨ a = 73 ∨ a = 74 ∨ a = 75 ∨ a = 76 ∨ (a = 55 ∧ (z = 9 ∨ z = 34 ∨ z = 35))) → I' a z = I a z) : MVI I' t (b', u.2) :=
  ⟨hW, hO, fun i hi => (e 60 i (by omega)).trans (h.2.2.1 i hi), by rw [e 55 9 (by omega)]; exact h.2.2.2.1, ⟨(e 55 34 (by omega)).trans h.2.2.2.2.1.1, fun j q hq => ⟨(e 73 j (by omega)).trans (h.2.2.2.2.1.2 j q hq).1, (e 76 j (by omega)).trans (h.2.2.2.2.1.2 j q hq).2⟩⟩,
   ⟨(e 55 35 (by omega)).trans h.2.2.2.2.2.1, fun j q hq => ⟨(e 74 j (by omega)).trans (h.2.2.2.2.2.2 j q hq).1, (e 75 j (by omega)).trans (h.2.2.2.2.2.2 j q hq).2⟩⟩⟩
theorem OV_b {u : VI} {b' : BS} (h : OV u) (e : b_n b' = b_n (u_b u) ∧ b_k b' = b_k (u_b u) ∧ b_v b' = b_v (u_b u)) (hr : ∀ j, 4 * b_n (u_b u) ≤ j → b_r b' j = 0) (hy : b_y b' ≤ 999) : OV (b', u.2) := by
  obtain ⟨e1, e2, e3⟩ := e
  obtain ⟨⟨v1, v2, v3⟩, v4, v5, v6, v7, v8⟩ := h
  refine ⟨⟨fun i hi => ?_, fun j hj => hr j (by rw [← e1]; exact hj), v3⟩, hy, v5, fun q hq => ?_, v7, fun q hq => ?_⟩
  · show b_k b' i = 0 ∧ b_v b' i = 0 ∧ u_c u i = 0
    rw [e2, e3]
    exact v1 i (by rw [← e1]; exact hi)
  · show q.1 < w_pr (b_n b')
    rw [e1]; exact v6 q hq
  · show q.1 < w_pr (b_n b') ∧ q.2 < 100
    rw [e1]; exact v8 q hq
/-- the class's village, its base changed -/
theorem ZW_b {I' : Nat → Nat → Int32} {u : VI} {b' : BS} (hw : ZW K I R 1 u) (hv : ∀ hm, CV K I R 1 (u_b u) hm (u_p u) → CV K I' R 1 b' hm (u_p u)) (en : b_n b' = b_n (u_b u)) (e : ∀ a z, (a = 1 ∧ (z = 8 ∨ z = 11)) ∨ (5 ≤ a ∧ a ≤ 9) → I' a z = I a z) : ZW K I' R 1 (b', u.2) := by
  obtain ⟨hm, h1, h2, h3, h4, h5⟩ := hw
  exact ⟨hm, hv hm h1, HF_n h2 en, fun i hi => (e 5 i (by omega)).trans (h3 i hi), ⟨(e 1 8 (by omega)).trans h4.1, fun j q hq => ⟨(e 6 j (by omega)).trans (h4.2 j q hq).1, (e 7 j (by omega)).trans (h4.2 j q hq).2⟩⟩,
   ⟨(e 1 11 (by omega)).trans h5.1, fun j q hq => ⟨(e 8 j (by omega)).trans (h5.2 j q hq).1, (e 9 j (by omega)).trans (h5.2 j q hq).2⟩⟩⟩
/-! person -/
def n_person (g : ZS) (kk vv : Int32) : Int32 × ZS := match x_nat kk 7, x_nat vv 10 with
  | none, _ => (-1, g)
  | some _, none => (-2, g)
  | some k, some v => if b_n (u_b (st_u g)) = 6 then (-4, g) else (nI (b_n (u_b (st_u g))), z_u g (b_jn (u_b (st_u g)) k v 0, (st_u g).2))
theorem pr_mono : ∀ n, n < 6 → w_pr n ≤ w_pr (n + 1) := by decide
theorem OV_jn {u : VI} {k v : Nat} (h : OV u) (hn : b_n (u_b u) < 6) : OV (b_jn (u_b u) k v 0, u.2) := by
  obtain ⟨⟨v1, v2, v3⟩, v4, v5, v6, v7, v8⟩ := h
  have hp := pr_mono _ hn
  refine ⟨⟨fun i hi => ?_, fun j hj => v2 j (by have hj : 4 * (b_n (u_b u) + 1) ≤ j := hj; omega), v3⟩, v4, v5, fun q hq => Nat.lt_of_lt_of_le (v6 q hq) hp, v7, fun q hq => ⟨Nat.lt_of_lt_of_le (v8 q hq).1 hp, (v8 q hq).2⟩⟩
  have hi : b_n (u_b u) + 1 ≤ i := hi
  have w := v1 i (by omega)
  show (if i = b_n (u_b u) then k else b_k (u_b u) i) = 0 ∧ (if i = b_n (u_b u) then v else b_v (u_b u) i) = 0 ∧ u_c u i = 0
  rw [if_neg (by omega), if_neg (by omega)]
  exact w
theorem C_person {kk vv : Int32} {hm : Nat} (h : ZJ K I J R g) (hv : CV K I R 1 (u_b (st_u g)) hm (u_p (st_u g))) (hf : HF (u_b (st_u g)) hm)
    (hp : (x_nat kk 7 = none ∧ x = -1 ∧ M' = (K, I, J, R)) ∨ ((∃ k, x_nat kk 7 = some k) ∧ x_nat vv 10 = none ∧ x = -2 ∧ M' = (K, I, J, R)) ∨ ((∃ k, x_nat kk 7 = some k) ∧ (∃ v, x_nat vv 10 = some v) ∧ b_n (u_b (st_u g)) = 6 ∧ x = -4 ∧ M' = (K, I, J, R)) ∨ (∃ k v, k < 7 ∧ v < 10 ∧ x_nat kk 7 = some k ∧ x_nat vv 10 = some v ∧ b_n (u_b (st_u g)) < 6 ∧ x = nI (b_n (u_b (st_u g))) ∧ M' = (v_k K (p_ci k) 0, w_cj (w_p3 (v_z I K.1 0) K.1 k (b_n (u_b (st_u g))) v) 1 (b_n (u_b (st_u g))) hm, v_z J K.1 0, v_u (v_z R K.1 none) (1 + 1) (b_n (u_b (st_u g))) (some K.1)))) :
    ZCp K g (n_person g kk vv).2 (n_person g kk vv).1 x M' := by
  rcases hp with ⟨c1, rfl, rfl⟩ | ⟨⟨k, c1⟩, c2, rfl, rfl⟩ | ⟨⟨k, c1⟩, ⟨v, c2⟩, c3, rfl, rfl⟩ | ⟨k, v, k1, v1, c1, c2, c3, rfl, rfl⟩
  · simp only [n_person, c1]; exact ZCp_s h
  · simp only [n_person, c1, c2]; exact ZCp_s h
  · simp only [n_person, c1, c2, if_pos c3]; exact ZCp_s h
  · simp only [n_person, c1, c2, if_neg (Nat.ne_of_lt c3)]
    obtain ⟨hL, hK, hR, hC⟩ := h
    obtain ⟨hm2, w1, w2, w3, w4, w5⟩ := hC.1
    have hO := hR.1.2.1
    have up : UPK K (v_k K (p_ci k) 0) := UPK_k
    have e1 : ∀ a z, a < K.1 → w_p3 (v_z I K.1 0) K.1 k (b_n (u_b (st_u g))) v a z = I a z := fun a z l => p3_o (by omega)
    have e2 : ∀ a z, a < K.1 → v_z R K.1 none a z = R a z := fun a z l => v_z_h (by omega)
    have hv1 := CV_up (I' := w_p3 (v_z I K.1 0) K.1 k (b_n (u_b (st_u g))) v) (R' := v_z R K.1 none) hv (Or.inl rfl) hK up e1 e2
    have hv2 := CV_join hv1 (Or.inl rfl) hf c3 (by omega) (by omega) hO.1.2.1 (PS_np hK)
    have hL1 : Lay (v_k K (p_ci k) 0) (v_z R K.1 none) := Lay_up hL up (fun a z l => v_z_h (by omega))
    have f1 : ∀ a z, a < K.1 → (a = 1 → 2 ≤ z) → a ≠ 3 → a ≠ 4 → a ≠ 5 → w_cj (w_p3 (v_z I K.1 0) K.1 k (b_n (u_b (st_u g))) v) 1 (b_n (u_b (st_u g))) hm a z = I a z := fun a z l n1 n3 n4 n5 => by
      unfold w_cj
      have n10 : ¬ (a = 1 ∧ z = 0) := by omega
      have n11 : ¬ (a = 1 ∧ z = 1) := by omega
      simp only [v_u, if_neg n10, if_neg n11]
      rw [if_neg (by omega), if_neg (by omega), if_neg (by omega)]
      exact e1 a z l
    have f2 : ∀ a z, a < K.1 → a ≠ 2 → v_u (v_z R K.1 none) (1 + 1) (b_n (u_b (st_u g))) (some K.1) a z = R a z := fun a z l n => by rw [v_u_h (by omega)]; exact e2 a z l
    have f5 : ∀ i, i < 6 → w_cj (w_p3 (v_z I K.1 0) K.1 k (b_n (u_b (st_u g))) v) 1 (b_n (u_b (st_u g))) hm 5 i = I 5 i := fun i hi => by
      unfold w_cj
      simp only [v_u]
      rw [if_neg (by omega), if_neg (by omega), if_neg (by omega)]
      by_cases q : i = b_n (u_b (st_u g))
      · rw [if_pos ⟨trivial, q⟩]
        exact ((w3 i hi).trans (by rw [(hO.1.1 i (by omega)).2.2])).symm
      · rw [if_neg (by omega), if_neg (by omega)]
        exact e1 5 i (by omega)
    refine ⟨rfl, _, _, _, _, rfl, ZH_C ⟨hL, hK, hR, hC⟩ (Lay_1 hL1 (Or.inl rfl)) up.1 (fun a z l1 l2 => f1 a z (by omega) (by omega) (by omega) (by omega) (by omega)) (fun z => v_z_h (by omega)) ?_, by show K.1 + 1 ≤ K.1 + 6; omega⟩
    refine ⟨⟨_, hv2, HF_jn hf c3, fun i hi => (f5 i hi).trans (w3 i hi), ⟨(f1 1 8 (by omega) (by omega) (by omega) (by omega) (by omega)).trans w4.1, fun j q hq => ⟨(f1 6 j (by omega) (by omega) (by omega) (by omega) (by omega)).trans (w4.2 j q hq).1, (f1 7 j (by omega) (by omega) (by omega) (by omega) (by omega)).trans (w4.2 j q hq).2⟩⟩, ⟨(f1 1 11 (by omega) (by omega) (by omega) (by omega) (by omega)).trans w5.1, fun j q hq => ⟨(f1 8 j (by omega) (by omega) (by omega) (by omega) (by omega)).trans (w5.2 j q hq).1, (f1 9 j (by omega) (by omega) (by omega) (by omega) (by omega)).trans (w5.2 j q hq).2⟩⟩⟩, ?_, ⟨?_, ?_⟩, ?_, ?_⟩
    · exact ZI_c hC.2.1 hK up (f1 0 3 (by omega) (by omega) (by omega) (by omega) (by omega)) (fun a z l q => f1 a z l (by unfold cw at q; omega) (by unfold cw at q; omega) (by unfold cw at q; omega) (by unfold cw at q; omega)) (fun a z l q => f2 a z l (by omega))
    · intro i hi a ha
      by_cases q : i = b_n (u_b (st_u g))
      · subst q
        rw [v_u_same] at ha
        cases ha
        exact ⟨hK, p_ci k, v_is_new, p_cst k⟩
      · rw [v_u_k q, v_z_h (by omega)] at ha
        obtain ⟨q1, ci, q2, q3⟩ := hC.2.2.1.1 i hi a ha
        exact ⟨q1, ci, up.2 _ _ _ q2, q3⟩
    · exact CPA_c hC.2.2.1.2 up (fun z => f2 _ z (by omega) (by omega))
    · exact ZT_c hC.2.2.2.1 up (fun z => f2 _ z (by omega) (by omega)) (f2 _ _ (by omega) (by omega)) (f2 _ _ (by omega) (by omega)) (fun a z l q => f2 a z l (by omega))
    · exact ZY_c hC.2.2.2.2 (fun a z q => f1 a z (by unfold m_y at q; omega) (by unfold m_y at q; omega) (by unfold m_y at q; omega) (by unfold m_y at q; omega) (by unfold m_y at q; omega)) (fun a z l1 l2 => v_z_h (by omega))
theorem M_person {kk vv : Int32} (h : ZH K I J R g (n_person g kk vv).2)
    (hp : (x_nat kk 7 = none ∧ x = -1 ∧ M' = (K, I, J, R)) ∨ ((∃ k, x_nat kk 7 = some k) ∧ x_nat vv 10 = none ∧ x = -2 ∧ M' = (K, I, J, R)) ∨ ((∃ k, x_nat kk 7 = some k) ∧ (∃ v, x_nat vv 10 = some v) ∧ b_n (u_b (st_u g)) = 6 ∧ x = -4 ∧ M' = (K, I, J, R)) ∨ (∃ k v, k < 7 ∧ v < 10 ∧ x_nat kk 7 = some k ∧ x_nat vv 10 = some v ∧ b_n (u_b (st_u g)) < 6 ∧ x = nI (b_n (u_b (st_u g))) ∧ M' = (K, v_u (w_lay I (b_n (u_b (st_u g))) (nI k) (nI v)) 55 0 (nI (b_n (u_b (st_u g)) + 1)), J, R))) :
    ZMp K R (n_person g kk vv).2 (n_person g kk vv).1 x M' := by
  rcases hp with ⟨c1, rfl, rfl⟩ | ⟨⟨k, c1⟩, c2, rfl, rfl⟩ | ⟨⟨k, c1⟩, ⟨v, c2⟩, c3, rfl, rfl⟩ | ⟨k, v, k1, v1, c1, c2, c3, rfl, rfl⟩
  · simp only [n_person, c1] at h ⊢; exact ZMp_s h
  · simp only [n_person, c1, c2] at h ⊢; exact ZMp_s h
  · simp only [n_person, c1, c2, if_pos c3] at h ⊢; exact ZMp_s h
  · simp only [n_person, c1, c2, if_neg (Nat.ne_of_lt c3)] at h ⊢
    have hR := h.2.2.1
    have hM := hR.1
    have hO := hM.2.1
    have f : ∀ a z, (a = 55 → z ≠ 0) → a ≠ 56 → a ≠ 57 → a ≠ 58 → a ≠ 59 → a ≠ 60 → v_u (w_lay I (b_n (u_b (st_u g))) (nI k) (nI v)) 55 0 (nI (b_n (u_b (st_u g)) + 1)) a z = I a z := fun a z n0 n1 n2 n3 n4 n5 => by
      simp only [v_u]
      rw [if_neg (by omega)]
      exact w_lay_h ⟨n1, n2, n5, n3, n4⟩
    refine ⟨rfl, _, _, rfl, ZH_M h (fun a z q => f a z (by omega) (by omega) (by omega) (by omega) (by omega) (by omega)) (fun _ _ _ => rfl) (ZR_u hR ⟨MW_lay hM.1 hO.1 c3 (by omega) (by omega), OV_jn hO c3, fun i hi => ?_, ?_, ?_, ?_⟩ (fun a z q => ?_))⟩
    · have hc := hM.2.2.1 i hi
      rw [v_u_h (by omega)]
      show w_lay I (b_n (u_b (st_u g))) (nI k) (nI v) 60 i = nI (u_c (st_u g) i)
      by_cases q : i = b_n (u_b (st_u g))
      · rw [(hO.1.1 i (by omega)).2.2]
        simp [w_lay, q]; rfl
      · simp [w_lay, q]; exact hc
    · rw [f 55 9 (by omega) (by omega) (by omega) (by omega) (by omega) (by omega)]; exact hM.2.2.2.1
    · exact ⟨(f 55 34 (by omega) (by omega) (by omega) (by omega) (by omega) (by omega)).trans hM.2.2.2.2.1.1, fun j q hq => ⟨(f 73 j (by omega) (by omega) (by omega) (by omega) (by omega) (by omega)).trans (hM.2.2.2.2.1.2 j q hq).1, (f 76 j (by omega) (by omega) (by omega) (by omega) (by omega) (by omega)).trans (hM.2.2.2.2.1.2 j q hq).2⟩⟩
    · exact ⟨(f 55 35 (by omega) (by omega) (by omega) (by omega) (by omega) (by omega)).trans hM.2.2.2.2.2.1, fun j q hq => ⟨(f 74 j (by omega) (by omega) (by omega) (by omega) (by omega) (by omega)).trans (hM.2.2.2.2.2.2 j q hq).1, (f 75 j (by omega) (by omega) (by omega) (by omega) (by omega) (by omega)).trans (hM.2.2.2.2.2.2 j q hq).2⟩⟩
    · have q : (a = 55 ∧ z ≠ 0) ∨ 60 < a := by
        rcases q with q | q
        · unfold m_o m_tw at q; omega
        · unfold m_x at q; omega
      exact f a z (by omega) (by omega) (by omega) (by omega) (by omega) (by omega)
end CALLS
