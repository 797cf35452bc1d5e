/-! THE 38 CALLS over the joint state: the class's contracts (jC_), the reference's (jM_) -/
section READ
variable {K : Nat × v_TY} {I : Nat → Nat → Int32} {J : Nat → Nat → Int64} {R : Nat → Nat → Option Nat} {g : ZS} {α : Type} {A x : α} {M' : v_MM}
theorem rC_s (h : ZJ K I J R g) (hp : x = A ∧ M' = (K, I, J, R)) : ZCp K g g A x M' := ⟨hp.1, K, I, J, R, hp.2, h, by omega⟩
theorem rC_F (h : ZJ K I J R g) (hp : x = A ∧ ∃ I', M' = (K, I', J, R) ∧ cF 1 I I') : ZCp K g g A x M' := by
  obtain ⟨h1, I', h2, h3⟩ := hp
  exact ⟨h1, K, I', J, R, h2, ZH_F h h3, by omega⟩
theorem rC_R (h : ZJ K I J R g) (hp : x = A ∧ ∃ I' R', M' = (K, I', J, R') ∧ Lay K R' ∧ cR I I' ∧ cRR R R') : ZCp K g g A x M' := by
  obtain ⟨h1, I', R', h2, h3, h4, h5⟩ := hp
  exact ⟨h1, K, I', J, R', h2, ZH_R h h3 h4 h5, by omega⟩
theorem rC_T (h : ZJ K I J R g) (hp : x = A ∧ ∃ I', M' = (K, I', J, R) ∧ cR I I') : ZCp K g g A x M' := by
  obtain ⟨h1, I', h2, h3⟩ := hp
  exact ⟨h1, K, I', J, R, h2, ZH_R h h.1 h3 cRR_rf, by omega⟩
theorem rC_N (h : ZJ K I J R g) (hp : x = A ∧ ∃ K' I' J' R', M' = (K', I', J', R') ∧ NB K I J R K' I' J' R') : ZCp K g g A x M' := by
  obtain ⟨h1, K', I', J', R', h2, n1, n2, n3, n4, n5, n6⟩ := hp
  have hK := h.2.1
  exact ⟨h1, K', I', J', R', h2, ZH_C h n1 n2.1 (fun a z l1 l2 => n4 a z (by omega) (by unfold m_cr; omega)) (fun z => n6 _ z (by omega)) (ZC_c h.2.2.2 hK n2 (fun a z l _ n => n4 a z l n) (fun a z l1 l2 => n6 a z (by omega)) (fun a z l q1 q2 => n5 a z l q1 q2)), by omega⟩
theorem rM_s (h : ZH K I J R g g) (hp : x = A ∧ M' = (K, I, J, R)) : ZMp K R g A x M' := ⟨hp.1, I, J, hp.2, h⟩
theorem rM_J (h : ZH K I J R g g) (hp : x = A ∧ ∃ I', M' = (K, I', J, R) ∧ mJ I I') : ZMp K R g A x M' := by
  obtain ⟨h1, I', h2, h3⟩ := hp
  exact ⟨h1, I', J, h2, ZH_J h h3⟩
theorem rM_S (h : ZH K I J R g g) (hp : x = A ∧ ∃ I', M' = (K, I', J, R) ∧ MW I' (u_b (st_u g)) 9 (u_p (st_u g)) ∧ mS I I') : ZMp K R g A x M' := by
  obtain ⟨h1, I', h2, h3, h4⟩ := hp
  have hR := h.2.2.1
  have h6 := hR.2.2.2.2.1.2
  have f : ∀ a z, a ≠ 58 → ¬ m_sc a z → I' a z = I a z := fun a z n1 n2 => h4 a z (fun q => n2 (by unfold m_jk at q; unfold m_sc; omega)) (fun q => n2 (by obtain ⟨q1, q2⟩ := q; unfold m_be at q2; unfold m_sc; omega)) n1
  refine ⟨h1, I', J, h2, ZH_M h (fun a z q => f a z (by omega) (by unfold m_sc; omega)) (fun _ _ _ => rfl) ⟨MVI_c hR.1 h6 (fun a z q => ?_), ZO_c hR.2.1 h6 (fun a z q => f a z (by unfold m_o m_tw at q; omega) (by unfold m_o m_tw at q; unfold m_sc; omega)), ZX_c hR.2.2 (fun a z q => f a z (by unfold m_x at q; omega) (by unfold m_x at q; unfold m_sc; omega)) (fun _ => rfl)⟩⟩
  by_cases e : a = 58
  · subst e
    have hz : z < 7 := by unfold m_v m_tw at q; omega
    exact (MVm h3.1 hz).trans (MVm hR.1.1.1 hz).symm
  · exact f a z e (by unfold m_v m_tw at q; unfold m_sc; omega)
theorem ZI_im {o : Option VI} (h : ZI K I R o) : I 0 3 = v_p (o.isSome = true) := by
  cases o with
  | none => exact h.1.trans (v_p_f (by decide)).symm
  | some u => exact h.1.trans (v_p_t rfl).symm
theorem ZI_n {o : Option VI} (h : ZI K I R o) : ∃ n, I 11 0 = nI n := by
  cases o with
  | none => exact h.2
  | some u =>
    obtain ⟨hm, w1, -⟩ := h.2
    exact ⟨_, w1.1.1⟩
end READ
section CALLS38
variable {K : Nat × v_TY} {I : Nat → Nat → Int32} {J : Nat → Nat → Int64} {R : Nat → Nat → Option Nat} {g : ZS}
theorem jC_person (G : v_G) (l : Launch) {kk : Int32} {vv : Int32} (h : ZJ K I J R g) (hK : K.1 < 700000) : v_M G l yX11_person cX11_person 3 (some .int) rm_X11_person [.ref 0, .int kk, .int vv] (K, I, J, R) (v_Qi G (ZCp K g (n_person g kk vv).2 (n_person g kk vv).1)) := by
  obtain ⟨hm, hv, hf, hcm, hwi, hbo⟩ := h.2.2.2.1
  exact v_Mi (c_X11_person G l h.1 hv hf ⟨h.2.1, by omega⟩) (fun x M' hp => C_person h hv hf hp)
theorem jM_person (G : v_G) (l : Launch) {kk : Int32} {vv : Int32} (h : ZH K I J R g (n_person g kk vv).2) : v_M G l yX12_person cX12_person 3 (some .int) rm_X12_person [.ref 55, .int kk, .int vv] (K, I, J, R) (v_Qi G (ZMp K R (n_person g kk vv).2 (n_person g kk vv).1)) := by
  have hW := h.2.2.1.1.1
  exact v_Mi (c_X12_person G l h.1 (MVn hW.1) (VBn hW.1)) (fun x M' hp => M_person h hp)
theorem jC_of (G : v_G) (l : Launch) {pp : Int32} {ww : Int32} (h : ZJ K I J R g) (hK : K.1 < 700000) : v_M G l yX11_of cX11_of 4 (some .int) rm_X11_of [.ref 0, .int pp, .int ww] (K, I, J, R) (v_Qi G (ZCp K g g (s_of (u_b (st_u g)) (u_c (st_u g)) (u_p (st_u g)) pp ww))) := by
  obtain ⟨hm, hv, hf, hcm, hwi, hbo⟩ := h.2.2.2.1
  exact v_Mi (c_X11_of G l h.1 hv hf hcm) (fun x M' hp => rC_F h hp)
theorem jM_of (G : v_G) (l : Launch) {pp : Int32} {ww : Int32} (h : ZH K I J R g g) : v_M G l yX12_of cX12_of 4 (some .int) rm_X12_of [.ref 55, .int pp, .int ww] (K, I, J, R) (v_Qi G (ZMp K R g (s_of (u_b (st_u g)) (u_c (st_u g)) (u_p (st_u g)) pp ww))) := by
  have hW := h.2.2.1.1.1
  have hc := h.2.2.1.1.2.2.1
  exact v_Mi (c_X12_of G l h.1 hW hc) (fun x M' hp => rM_J h hp)
theorem jC_friends (G : v_G) (l : Launch) {pp : Int32} {qq : Int32} {ar : Bool} (h : ZJ K I J R g) (hK : K.1 < 700000) : v_M G l yX11_friends cX11_friends 6 (some .int) rm_X11_friends [.ref 0, .int pp, .int qq, .int (v_p (ar = true))] (K, I, J, R) (v_Qi G (ZCp K g (n_friends g pp qq ar).2 (n_friends g pp qq ar).1)) := by
  obtain ⟨hm, hv, hf, hcm, hwi, hbo⟩ := h.2.2.2.1
  exact v_Mi (c_X11_friends G l h.1 hv.1 hv.2.1) (fun x M' hp => C_friends h hp)
theorem jM_friends (G : v_G) (l : Launch) {pp : Int32} {qq : Int32} {ar : Bool} (h : ZH K I J R g (n_friends g pp qq ar).2) : v_M G l yX12_friends cX12_friends 5 (some .int) rm_X12_friends [.ref 55, .int pp, .int qq, .int (v_p (ar = true))] (K, I, J, R) (v_Qi G (ZMp K R (n_friends g pp qq ar).2 (n_friends g pp qq ar).1)) := by
  have hW := h.2.2.1.1.1
  exact v_Mi (c_X12_friends G l h.1 (MVn hW.1) (VBn hW.1) (fun i hi => MVm hW.1 hi)) (fun x M' hp => M_friends h hp)
theorem jC_pair (G : v_G) (l : Launch) {pp : Int32} {qq : Int32} (h : ZJ K I J R g) (hK : K.1 < 700000) : v_M G l yX11_pair cX11_pair 5 (some .int) rm_X11_pair [.ref 0, .int pp, .int qq] (K, I, J, R) (v_Qi G (ZCp K g g (s_pair (b_n (u_b (st_u g))) pp qq))) := by
  obtain ⟨hm, hv, hf, hcm, hwi, hbo⟩ := h.2.2.2.1
  exact v_Mi (c_X11_pair G l h.1 hv.1.1 (Nat.lt_succ_of_le hv.2.1.1)) (fun x M' hp => rC_s h hp)
theorem jM_pair (G : v_G) (l : Launch) {pp : Int32} {qq : Int32} (h : ZH K I J R g g) : v_M G l yX12_pair cX12_pair 3 (some .int) rm_X12_pair [.ref 55, .int pp, .int qq] (K, I, J, R) (v_Qi G (ZMp K R g (s_pair (b_n (u_b (st_u g))) pp qq))) := by
  have hW := h.2.2.1.1.1
  exact v_Mi (c_X12_pair G l h.1 hW) (fun x M' hp => rM_J h hp)
theorem jC_at (G : v_G) (l : Launch) {pp : Int32} {ww : Int32} (h : ZJ K I J R g) (hK : K.1 < 700000) : v_M G l yX11_at cX11_at 3 (some .int) rm_X11_at [.ref 0, .int pp, .int ww] (K, I, J, R) (v_Qi G (ZCp K g g (s_at (u_b (st_u g)) (u_p (st_u g)) pp ww))) := by
  obtain ⟨hm, hv, hf, hcm, hwi, hbo⟩ := h.2.2.2.1
  exact v_Mi (c_X11_at G l h.1 hv hf) (fun x M' hp => rC_F h hp)
theorem jM_at (G : v_G) (l : Launch) {pp : Int32} {ww : Int32} (h : ZH K I J R g g) : v_M G l yX12_at cX12_at 5 (some .int) rm_X12_at [.ref 55, .int pp, .int ww] (K, I, J, R) (v_Qi G (ZMp K R g (s_at (u_b (st_u g)) (u_p (st_u g)) pp ww))) := by
  have hW := h.2.2.1.1.1
  exact v_Mi (c_X12_at G l h.1 hW) (fun x M' hp => rM_J h hp)
theorem jC_row (G : v_G) (l : Launch) {pp : Int32} {jj : Int32} {dd : Int32} (h : ZJ K I J R g) (hK : K.1 < 700000) : v_M G l yX11_row cX11_row 7 (some .int) rm_X11_row [.ref 0, .int pp, .int jj, .int dd] (K, I, J, R) (v_Qi G (ZCp K g (n_row g pp jj dd).2 (n_row g pp jj dd).1)) := by
  obtain ⟨hm, hv, hf, hcm, hwi, hbo⟩ := h.2.2.2.1
  exact v_Mi (c_X11_row G l h.1 hv hf) (fun x M' hp => C_row h hp)
theorem jM_row (G : v_G) (l : Launch) {pp : Int32} {jj : Int32} {dd : Int32} (h : ZH K I J R g (n_row g pp jj dd).2) : v_M G l yX12_row cX12_row 5 (some .int) rm_X12_row [.ref 55, .int pp, .int jj, .int dd] (K, I, J, R) (v_Qi G (ZMp K R (n_row g pp jj dd).2 (n_row g pp jj dd).1)) := by
  have hW := h.2.2.1.1.1
  exact v_Mi (c_X12_row G l h.1 (MVn hW.1) (VBn hW.1) (fun i hi => MVk hW.1 hi) (fun i => VBk hW.1 i) (fun j hj => MVr hW.1 hj)) (fun x M' hp => M_row h hp)
theorem jC_feed (G : v_G) (l : Launch) {ss : Int32} (h : ZJ K I J R g) (hK : K.1 < 700000) : v_M G l yX11_feed cX11_feed 2 (some .int) rm_X11_feed [.ref 0, .int ss] (K, I, J, R) (v_Qi G (ZCp K g (n_feed g ss).2 (n_feed g ss).1)) := by
  have hY := h.2.2.2.2.2.2.2
  have hX := h.2.2.1.2.2
  exact v_Mi (c_X11_feed G l h.1 hY.2.1.1 hX.1.2.1) (fun x M' hp => C_feed h hp)
theorem jM_feed (G : v_G) (l : Launch) {ss : Int32} (h : ZH K I J R g (n_feed g ss).2) : v_M G l yX12_feed cX12_feed 2 (some .int) rm_X12_feed [.ref 55, .int ss] (K, I, J, R) (v_Qi G (ZMp K R (n_feed g ss).2 (n_feed g ss).1)) := by
  have hX := h.2.2.1.2.2
  exact v_Mi (c_X12_feed G l h.1 hX.1.1 hX.1.2.1) (fun x M' hp => M_feed h hp)
theorem jC_town (G : v_G) (l : Launch) (h : ZJ K I J R g) (hK : K.1 < 700000) : v_M G l yX11_town cX11_town 2 (some .int) rm_X11_town [.ref 0] (K, I, J, R) (v_Qi G (ZCp K g (n_town g).2 (n_town g).1)) := by
  obtain ⟨t, hnt, hTH, -⟩ := h.2.2.2.2.2.2.1
  have hY := h.2.2.2.2.2.2.2
  have hX := h.2.2.1.2.2
  exact v_Mi (c_X11_town G l h.1 hnt hTH hY.2.1.1 hX.1.2.1 hY.2.1.2.1 hY.2.1.2.2 hY.1 hX.2.2.1.2 ⟨h.2.1, by omega⟩) (fun x M' hp => C_town h hnt hp)
theorem jM_town (G : v_G) (l : Launch) (h : ZH K I J R g (n_town g).2) : v_M G l yX12_town cX12_town 2 (some .int) rm_X12_town [.ref 55] (K, I, J, R) (v_Qi G (ZMp K R (n_town g).2 (n_town g).1)) := by
  have hX := h.2.2.1.2.2
  exact v_Mi (c_X12_town G l h.1 hX.1 hX.2.1 hX.2.2.1.1 hX.2.2.1.2) (fun x M' hp => M_town h hp)
theorem jC_year (G : v_G) (l : Launch) (h : ZJ K I J R g) (hK : K.1 < 700000) : v_M G l yX11_year cX11_year 1 (some .int) rm_X11_year [.ref 0] (K, I, J, R) (v_Qi G (ZCp K g (n_year g).2 (n_year g).1)) := by
  obtain ⟨hm, hv, hf, hcm, hwi, hbo⟩ := h.2.2.2.1
  have hO := h.2.2.1.1.2.1
  exact v_Mi (c_X11_year G l h.1 hv.1.2.2.1 hO.2.1) (fun x M' hp => C_year h hp)
theorem jM_year (G : v_G) (l : Launch) (h : ZH K I J R g (n_year g).2) : v_M G l yX12_year cX12_year 1 (some .int) rm_X12_year [.ref 55] (K, I, J, R) (v_Qi G (ZMp K R (n_year g).2 (n_year g).1)) := by
  have hW := h.2.2.1.1.1
  have hO := h.2.2.1.1.2.1
  exact v_Mi (c_X12_year G l h.1 (MVy hW.1) hO.2.1) (fun x M' hp => M_year h hp)
theorem jC_told (G : v_G) (l : Launch) {ww : Int32} (h : ZJ K I J R g) (hK : K.1 < 700000) : v_M G l yX11_told cX11_told 2 (some .int) rm_X11_told [.ref 0, .int ww] (K, I, J, R) (v_Qi G (ZCp K g g (s_told (u_b (st_u g)) ww))) := by
  obtain ⟨hm, hv, hf, hcm, hwi, hbo⟩ := h.2.2.2.1
  exact v_Mi (c_X11_told G l h.1 hv hf) (fun x M' hp => rC_s h hp)
theorem jM_told (G : v_G) (l : Launch) {ww : Int32} (h : ZH K I J R g g) : v_M G l yX12_told cX12_told 2 (some .int) rm_X12_told [.ref 55, .int ww] (K, I, J, R) (v_Qi G (ZMp K R g (s_told (u_b (st_u g)) ww))) := by
  have hW := h.2.2.1.1.1
  exact v_Mi (c_X12_told G l h.1 hW) (fun x M' hp => rM_J h hp)
theorem jC_amiss (G : v_G) (l : Launch) {ww : Int32} (h : ZJ K I J R g) (hK : K.1 < 700000) : v_M G l yX11_amiss cX11_amiss 2 (some .int) rm_X11_amiss [.ref 0, .int ww] (K, I, J, R) (v_Qi G (ZCp K g g (s_amiss (u_b (st_u g)) (u_p (st_u g)) ww))) := by
  obtain ⟨hm, hv, hf, hcm, hwi, hbo⟩ := h.2.2.2.1
  exact v_Mi (c_X11_amiss G l h.1 hv hf) (fun x M' hp => rC_F h hp)
theorem jM_amiss (G : v_G) (l : Launch) {ww : Int32} (h : ZH K I J R g g) : v_M G l yX12_amiss cX12_amiss 3 (some .int) rm_X12_amiss [.ref 55, .int ww] (K, I, J, R) (v_Qi G (ZMp K R g (s_amiss (u_b (st_u g)) (u_p (st_u g)) ww))) := by
  have hW := h.2.2.1.1.1
  exact v_Mi (c_X12_amiss G l h.1 hW) (fun x M' hp => rM_J h hp)
theorem jC_alls (G : v_G) (l : Launch) (h : ZJ K I J R g) (hK : K.1 < 700000) : v_M G l yX11_alls cX11_alls 3 (some .int) rm_X11_alls [.ref 0] (K, I, J, R) (v_Qi G (ZCp K g g (nI (w_alls (vw (u_b (st_u g)) 9 (u_p (st_u g))) (b_n (u_b (st_u g))))))) := by
  obtain ⟨hm, hv, hf, hcm, hwi, hbo⟩ := h.2.2.2.1
  exact v_Mi (c_X11_alls G l h.1 hv hf) (fun x M' hp => rC_s h hp)
theorem jM_alls (G : v_G) (l : Launch) (h : ZH K I J R g g) : v_M G l yX12_alls cX12_alls 3 (some .int) rm_X12_alls [.ref 55] (K, I, J, R) (v_Qi G (ZMp K R g (nI (w_alls (vw (u_b (st_u g)) 9 (u_p (st_u g))) (b_n (u_b (st_u g))))))) := by
  have hW := h.2.2.1.1.1
  exact v_Mi (c_X12_alls G l h.1 hW) (fun x M' hp => rM_J h hp)
theorem jC_first (G : v_G) (l : Launch) {ww : Int32} (h : ZJ K I J R g) (hK : K.1 < 700000) : v_M G l yX11_first cX11_first 6 (some .int) rm_X11_first [.ref 0, .int ww] (K, I, J, R) (v_Qi G (ZCp K g g (s_first (u_b (st_u g)) (u_p (st_u g)) ww))) := by
  obtain ⟨hm, hv, hf, hcm, hwi, hbo⟩ := h.2.2.2.1
  have hA := h.2.2.2.2.2.1.1
  exact v_Mi (c_X11_first G l h.1 hv hf hA) (fun x M' hp => rC_R h hp)
theorem jM_first (G : v_G) (l : Launch) {ww : Int32} (h : ZH K I J R g g) : v_M G l yX12_first cX12_first 6 (some .int) rm_X12_first [.ref 55, .int ww] (K, I, J, R) (v_Qi G (ZMp K R g (s_first (u_b (st_u g)) (u_p (st_u g)) ww))) := by
  have hW := h.2.2.1.1.1
  exact v_Mi (c_X12_first G l h.1 hW) (fun x M' hp => rM_J h hp)
theorem jC_cheapest (G : v_G) (l : Launch) {ww : Int32} (h : ZJ K I J R g) (hK : K.1 < 700000) : v_M G l yX11_cheapest cX11_cheapest 5 (some .int) rm_X11_cheapest [.ref 0, .int ww] (K, I, J, R) (v_Qi G (ZCp K g g (s_cheap (u_b (st_u g)) (u_p (st_u g)) ww))) := by
  obtain ⟨hm, hv, hf, hcm, hwi, hbo⟩ := h.2.2.2.1
  have hA := h.2.2.2.2.2.1.1
  exact v_Mi (c_X11_cheapest G l h.1 hv hf hA) (fun x M' hp => rC_R h hp)
theorem jM_cheapest (G : v_G) (l : Launch) {ww : Int32} (h : ZH K I J R g g) : v_M G l yX12_cheapest cX12_cheapest 2 (some .int) rm_X12_cheapest [.ref 55, .int ww] (K, I, J, R) (v_Qi G (ZMp K R g (s_cheap (u_b (st_u g)) (u_p (st_u g)) ww))) := by
  have hW := h.2.2.1.1.1
  exact v_Mi (c_X12_cheapest G l h.1 hW) (fun x M' hp => rM_S h hp)
theorem jC_goes (G : v_G) (l : Launch) {ww : Int32} (h : ZJ K I J R g) (hK : K.1 < 700000) : v_M G l yX11_goes cX11_goes 6 (some .int) rm_X11_goes [.ref 0, .int ww] (K, I, J, R) (v_Qi G (ZCp K g g (s_goes (u_b (st_u g)) (u_p (st_u g)) ww))) := by
  obtain ⟨hm, hv, hf, hcm, hwi, hbo⟩ := h.2.2.2.1
  have hA := h.2.2.2.2.2.1.1
  exact v_Mi (c_X11_goes G l h.1 hv hf hA) (fun x M' hp => rC_R h hp)
theorem jM_goes (G : v_G) (l : Launch) {ww : Int32} (h : ZH K I J R g g) : v_M G l yX12_goes cX12_goes 6 (some .int) rm_X12_goes [.ref 55, .int ww] (K, I, J, R) (v_Qi G (ZMp K R g (s_goes (u_b (st_u g)) (u_p (st_u g)) ww))) := by
  have hW := h.2.2.1.1.1
  exact v_Mi (c_X12_goes G l h.1 hW) (fun x M' hp => rM_J h hp)
theorem jC_befriends (G : v_G) (l : Launch) {kk : Int32} {vv : Int32} {ww : Int32} (h : ZJ K I J R g) (hK : K.1 < 700000) : v_M G l yX11_befriends cX11_befriends 9 (some .int) rm_X11_befriends [.ref 0, .int kk, .int vv, .int ww] (K, I, J, R) (v_Qi G (ZCp K g g (s_befr (u_b (st_u g)) (u_p (st_u g)) kk vv ww))) := by
  obtain ⟨hm, hv, hf, hcm, hwi, hbo⟩ := h.2.2.2.1
  have hA := h.2.2.2.2.2.1.1
  have hO := h.2.2.1.1.2.1
  exact v_Mi (c_X11_befriends G l h.1 hv hf hA hO.1.2.1 ⟨h.2.1, by omega⟩) (fun x M' hp => rC_N h hp)
theorem jM_befriends (G : v_G) (l : Launch) {kk : Int32} {vv : Int32} {ww : Int32} (h : ZH K I J R g g) : v_M G l yX12_befriends cX12_befriends 9 (some .int) rm_X12_befriends [.ref 55, .int kk, .int vv, .int ww] (K, I, J, R) (v_Qi G (ZMp K R g (s_befr (u_b (st_u g)) (u_p (st_u g)) kk vv ww))) := by
  have hW := h.2.2.1.1.1
  have hO := h.2.2.1.1.2.1
  have hc := h.2.2.1.1.2.2.1
  exact v_Mi (c_X12_befriends G l h.1 hW hc hO.1) (fun x M' hp => rM_J h hp)
theorem jC_complain (G : v_G) (l : Launch) {pp : Int32} {dd : Int32} (h : ZJ K I J R g) (hK : K.1 < 700000) : v_M G l yX11_complain cX11_complain 4 (some .int) rm_X11_complain [.ref 0, .int pp, .int dd] (K, I, J, R) (v_Qi G (ZCp K g (n_complain g pp dd).2 (n_complain g pp dd).1)) := by
  obtain ⟨hm, hv, hf, hcm, hwi, hbo⟩ := h.2.2.2.1
  exact v_Mi (c_X11_complain G l h.1 hv.1.1 hv.2.1.1 hcm) (fun x M' hp => C_complain h hp)
theorem jM_complain (G : v_G) (l : Launch) {pp : Int32} {dd : Int32} (h : ZH K I J R g (n_complain g pp dd).2) : v_M G l yX12_complain cX12_complain 4 (some .int) rm_X12_complain [.ref 55, .int pp, .int dd] (K, I, J, R) (v_Qi G (ZMp K R (n_complain g pp dd).2 (n_complain g pp dd).1)) := by
  have hW := h.2.2.1.1.1
  have hc := h.2.2.1.1.2.2.1
  exact v_Mi (c_X12_complain G l h.1 (MVn hW.1) (VBn hW.1) hc) (fun x M' hp => M_complain h hp)
theorem jC_made (G : v_G) (l : Launch) (h : ZJ K I J R g) (hK : K.1 < 700000) : v_M G l yX11_made cX11_made 2 (some .int) rm_X11_made [.ref 0] (K, I, J, R) (v_Qi G (ZCp K g g (s_made (u_b (st_u g)) (u_p (st_u g)) (u_c (st_u g))))) := by
  obtain ⟨hm, hv, hf, hcm, hwi, hbo⟩ := h.2.2.2.1
  have hA := h.2.2.2.2.2.1.1
  have hO := h.2.2.1.1.2.1
  exact v_Mi (c_X11_made G l h.1 hv hf hA (fun i hi => ⟨hcm i hi, by have := hO.1.2.2 i; omega⟩)) (fun x M' hp => rC_R h hp)
theorem jM_made (G : v_G) (l : Launch) (h : ZH K I J R g g) : v_M G l yX12_made cX12_made 3 (some .int) rm_X12_made [.ref 55] (K, I, J, R) (v_Qi G (ZMp K R g (s_made (u_b (st_u g)) (u_p (st_u g)) (u_c (st_u g))))) := by
  have hW := h.2.2.1.1.1
  have hO := h.2.2.1.1.2.1
  have hc := h.2.2.1.1.2.2.1
  exact v_Mi (c_X12_made G l h.1 hW hc hO.1.2.2) (fun x M' hp => rM_J h hp)
theorem jC_far (G : v_G) (l : Launch) {pp : Int32} {qq : Int32} (h : ZJ K I J R g) (hK : K.1 < 700000) : v_M G l yX11_far cX11_far 5 (some .int) rm_X11_far [.ref 0, .int pp, .int qq] (K, I, J, R) (v_Qi G (ZCp K g g (s_far (b_m (u_b (st_u g))) (b_n (u_b (st_u g))) pp qq))) := by
  obtain ⟨hm, hv, hf, hcm, hwi, hbo⟩ := h.2.2.2.1
  exact v_Mi (c_X11_far G l h.1 hv.1 hv.2.1) (fun x M' hp => rC_s h hp)
theorem jM_far (G : v_G) (l : Launch) {pp : Int32} {qq : Int32} (h : ZH K I J R g g) : v_M G l yX12_far cX12_far 7 (some .int) rm_X12_far [.ref 55, .int pp, .int qq] (K, I, J, R) (v_Qi G (ZMp K R g (s_far (b_m (u_b (st_u g))) (b_n (u_b (st_u g))) pp qq))) := by
  have hW := h.2.2.1.1.1
  exact v_Mi (c_X12_far G l h.1 hW.1) (fun x M' hp => rM_s h hp)
theorem jC_towns (G : v_G) (l : Launch) {nn : Int32} {kk : Int32} (h : ZJ K I J R g) (hK : K.1 < 700000) : v_M G l yX11_towns cX11_towns 6 (some .int) rm_X11_towns [.ref 0, .int nn, .int kk] (K, I, J, R) (v_Qi G (ZCp K g g (s_towns nn kk))) := by
  exact v_Mi (c_X11_towns G l h.1 ) (fun x M' hp => rC_T h hp)
theorem jM_towns (G : v_G) (l : Launch) {nn : Int32} {kk : Int32} (h : ZH K I J R g g) : v_M G l yX12_towns cX12_towns 7 (some .int) rm_X12_towns [.ref 55, .int nn, .int kk] (K, I, J, R) (v_Qi G (ZMp K R g (s_towns nn kk))) := by
  exact v_Mi (c_X12_towns G l h.1 ) (fun x M' hp => rM_J h hp)
theorem jC_next (G : v_G) (l : Launch) {nn : Int32} {ww : Int32} (h : ZJ K I J R g) (hK : K.1 < 700000) : v_M G l yX11_next cX11_next 7 (some .int) rm_X11_next [.ref 0, .int nn, .int ww] (K, I, J, R) (v_Qi G (ZCp K g g (s_next (u_b (st_u g)) (u_p (st_u g)) nn ww))) := by
  obtain ⟨hm, hv, hf, hcm, hwi, hbo⟩ := h.2.2.2.1
  have hA := h.2.2.2.2.2.1.1
  have hO := h.2.2.1.1.2.1
  exact v_Mi (c_X11_next G l h.1 hv hf hA hO.2.1) (fun x M' hp => rC_R h hp)
theorem jM_next (G : v_G) (l : Launch) {nn : Int32} {ww : Int32} (h : ZH K I J R g g) : v_M G l yX12_next cX12_next 8 (some .int) rm_X12_next [.ref 55, .int nn, .int ww] (K, I, J, R) (v_Qi G (ZMp K R g (s_next (u_b (st_u g)) (u_p (st_u g)) nn ww))) := by
  have hW := h.2.2.1.1.1
  have hO := h.2.2.1.1.2.1
  exact v_Mi (c_X12_next G l h.1 hW hO.2.1) (fun x M' hp => rM_J h hp)
theorem jC_odds (G : v_G) (l : Launch) {ww : Int32} (h : ZJ K I J R g) (hK : K.1 < 700000) : v_M G l yX11_odds cX11_odds 4 (some .long) rm_X11_odds [.ref 0, .int ww] (K, I, J, R) (v_Ql G (ZCp K g g (s_odds (u_b (st_u g)) (u_p (st_u g)) ww))) := by
  obtain ⟨hm, hv, hf, hcm, hwi, hbo⟩ := h.2.2.2.1
  have hA := h.2.2.2.2.2.1.1
  exact v_Ml (c_X11_odds G l h.1 hv hf hA) (fun x M' hp => rC_R h hp)
theorem jM_odds (G : v_G) (l : Launch) {ww : Int32} (h : ZH K I J R g g) : v_M G l yX12_odds cX12_odds 5 (some .long) rm_X12_odds [.ref 55, .int ww] (K, I, J, R) (v_Ql G (ZMp K R g (s_odds (u_b (st_u g)) (u_p (st_u g)) ww))) := by
  have hW := h.2.2.1.1.1
  exact v_Ml (c_X12_odds G l h.1 hW) (fun x M' hp => rM_J h hp)
theorem jC_mean (G : v_G) (l : Launch) {ww : Int32} (h : ZJ K I J R g) (hK : K.1 < 700000) : v_M G l yX11_mean cX11_mean 4 (some .long) rm_X11_mean [.ref 0, .int ww] (K, I, J, R) (v_Ql G (ZCp K g g (s_mean (u_b (st_u g)) (u_p (st_u g)) ww))) := by
  obtain ⟨hm, hv, hf, hcm, hwi, hbo⟩ := h.2.2.2.1
  exact v_Ml (c_X11_mean G l h.1 hv hf) (fun x M' hp => rC_s h hp)
theorem jM_mean (G : v_G) (l : Launch) {ww : Int32} (h : ZH K I J R g g) : v_M G l yX12_mean cX12_mean 4 (some .long) rm_X12_mean [.ref 55, .int ww] (K, I, J, R) (v_Ql G (ZMp K R g (s_mean (u_b (st_u g)) (u_p (st_u g)) ww))) := by
  have hW := h.2.2.1.1.1
  exact v_Ml (c_X12_mean G l h.1 hW) (fun x M' hp => rM_s h hp)
theorem jC_wish (G : v_G) (l : Launch) {pp : Int32} {ar : Bool} (h : ZJ K I J R g) (hK : K.1 < 700000) : v_M G l yX11_wish cX11_wish 3 (some .int) rm_X11_wish [.ref 0, .int pp, .int (v_p (ar = true))] (K, I, J, R) (v_Qi G (ZCp K g (n_wish g pp ar).2 (n_wish g pp ar).1)) := by
  obtain ⟨hm, hv, hf, hcm, hwi, hbo⟩ := h.2.2.2.1
  have hO := h.2.2.1.1.2.1
  exact v_Mi (c_X11_wish G l h.1 hv.1.1 hv.2.1.1 hwi.1 hO.2.2.1) (fun x M' hp => C_wish h hp)
theorem jM_wish (G : v_G) (l : Launch) {pp : Int32} {ar : Bool} (h : ZH K I J R g (n_wish g pp ar).2) : v_M G l yX12_wish cX12_wish 3 (some .int) rm_X12_wish [.ref 55, .int pp, .int (v_p (ar = true))] (K, I, J, R) (v_Qi G (ZMp K R (n_wish g pp ar).2 (n_wish g pp ar).1)) := by
  have hW := h.2.2.1.1.1
  have hO := h.2.2.1.1.2.1
  have hMw := h.2.2.1.1.2.2.2.2.1
  exact v_Mi (c_X12_wish G l h.1 (MVn hW.1) (VBn hW.1) hMw.1 hO.2.2.1) (fun x M' hp => M_wish h hp)
theorem jC_kept (G : v_G) (l : Launch) {ww : Int32} (h : ZJ K I J R g) (hK : K.1 < 700000) : v_M G l yX11_kept cX11_kept 6 (some .int) rm_X11_kept [.ref 0, .int ww] (K, I, J, R) (v_Qi G (ZCp K g g (s_kept (vw (u_b (st_u g)) 9 (u_p (st_u g))) (u_w (st_u g)) ww))) := by
  obtain ⟨hm, hv, hf, hcm, hwi, hbo⟩ := h.2.2.2.1
  have hO := h.2.2.1.1.2.1
  exact v_Mi (c_X11_kept G l h.1 hv hf hwi hO.2.2.2.1 hO.2.2.1) (fun x M' hp => rC_F h hp)
theorem jM_kept (G : v_G) (l : Launch) {ww : Int32} (h : ZH K I J R g g) : v_M G l yX12_kept cX12_kept 6 (some .int) rm_X12_kept [.ref 55, .int ww] (K, I, J, R) (v_Qi G (ZMp K R g (s_kept (vw (u_b (st_u g)) 9 (u_p (st_u g))) (u_w (st_u g)) ww))) := by
  have hW := h.2.2.1.1.1
  have hO := h.2.2.1.1.2.1
  have hMw := h.2.2.1.1.2.2.2.2.1
  exact v_Mi (c_X12_kept G l h.1 hW hMw hO.2.2.2.1 hO.2.2.1) (fun x M' hp => rM_J h hp)
theorem jC_book (G : v_G) (l : Launch) {pp : Int32} {dd : Int32} (h : ZJ K I J R g) (hK : K.1 < 700000) : v_M G l yX11_book cX11_book 3 (some .int) rm_X11_book [.ref 0, .int pp, .int dd] (K, I, J, R) (v_Qi G (ZCp K g (n_book g pp dd).2 (n_book g pp dd).1)) := by
  obtain ⟨hm, hv, hf, hcm, hwi, hbo⟩ := h.2.2.2.1
  have hO := h.2.2.1.1.2.1
  exact v_Mi (c_X11_book G l h.1 hv.1.1 hv.2.1.1 hbo.1 hO.2.2.2.2.1) (fun x M' hp => C_book h hp)
theorem jM_book (G : v_G) (l : Launch) {pp : Int32} {dd : Int32} (h : ZH K I J R g (n_book g pp dd).2) : v_M G l yX12_book cX12_book 3 (some .int) rm_X12_book [.ref 55, .int pp, .int dd] (K, I, J, R) (v_Qi G (ZMp K R (n_book g pp dd).2 (n_book g pp dd).1)) := by
  have hW := h.2.2.1.1.1
  have hO := h.2.2.1.1.2.1
  have hMk := h.2.2.1.1.2.2.2.2.2
  exact v_Mi (c_X12_book G l h.1 (MVn hW.1) (VBn hW.1) hMk.1 hO.2.2.2.2.1) (fun x M' hp => M_book h hp)
theorem jC_looked (G : v_G) (l : Launch) (h : ZJ K I J R g) (hK : K.1 < 700000) : v_M G l yX11_looked cX11_looked 2 (some .int) rm_X11_looked [.ref 0] (K, I, J, R) (v_Qi G (ZCp K g g (s_looked (u_b (st_u g)) (u_p (st_u g)) (u_k (st_u g))))) := by
  obtain ⟨hm, hv, hf, hcm, hwi, hbo⟩ := h.2.2.2.1
  have hO := h.2.2.1.1.2.1
  exact v_Mi (c_X11_looked G l h.1 hv hf hbo hO.2.2.2.2.2 hO.2.2.2.2.1) (fun x M' hp => rC_s h hp)
theorem jM_looked (G : v_G) (l : Launch) (h : ZH K I J R g g) : v_M G l yX12_looked cX12_looked 2 (some .int) rm_X12_looked [.ref 55] (K, I, J, R) (v_Qi G (ZMp K R g (s_looked (u_b (st_u g)) (u_p (st_u g)) (u_k (st_u g))))) := by
  have hW := h.2.2.1.1.1
  have hO := h.2.2.1.1.2.1
  have hMk := h.2.2.1.1.2.2.2.2.2
  exact v_Mi (c_X12_looked G l h.1 hW hMk hO.2.2.2.2.2 hO.2.2.2.2.1) (fun x M' hp => rM_s h hp)
theorem jC_judge (G : v_G) (l : Launch) {tt : Int32} {ii : Int32} (h : ZJ K I J R g) (hK : K.1 < 700000) : v_M G l yX11_judge cX11_judge 5 (some .int) rm_X11_judge [.ref 0, .int tt, .int ii] (K, I, J, R) (v_Qi G (ZCp K g g (s_judge (u_b (st_u g)) (st_p g) tt ii))) := by
  obtain ⟨hm, hv, hf, hcm, hwi, hbo⟩ := h.2.2.2.1
  have hY := h.2.2.2.2.2.2.2
  have hTV := h.2.2.1.2.2.2.2.2.2.2
  exact v_Mi (c_X11_judge G l h.1 hv.1 hv.2.1 hY.2.2.2 hTV) (fun x M' hp => rC_s h hp)
theorem jM_judge (G : v_G) (l : Launch) {tt : Int32} {ii : Int32} (h : ZH K I J R g g) : v_M G l yX12_judge cX12_judge 4 (some .int) rm_X12_judge [.ref 55, .int tt, .int ii] (K, I, J, R) (v_Qi G (ZMp K R g (s_judge (u_b (st_u g)) (st_p g) tt ii))) := by
  have hW := h.2.2.1.1.1
  have hX := h.2.2.1.2.2
  exact v_Mi (c_X12_judge G l h.1 hW.1 hX.2.2.2.2.1 hX.2.2.2.2.2) (fun x M' hp => rM_s h hp)
theorem jC_image (G : v_G) (l : Launch) (h : ZJ K I J R g) (hK : K.1 < 700000) : v_M G l yX11_image cX11_image 1 (some .int) rm_X11_image [.ref 0] (K, I, J, R) (v_Qi G (ZCp K g (n_image g).2 (n_image g).1)) := by
  obtain ⟨hm, hv, hf, hcm, hwi, hbo⟩ := h.2.2.2.1
  have hA := h.2.2.2.2.2.1.1
  exact v_Mi (c_X11_image G l h.1 hv.1.1 hA) (fun x M' hp => C_image h hp)
theorem jM_image (G : v_G) (l : Launch) (h : ZH K I J R g (n_image g).2) : v_M G l yX12_image cX12_image 2 (some .int) rm_X12_image [.ref 55] (K, I, J, R) (v_Qi G (ZMp K R (n_image g).2 (n_image g).1)) := by
  exact v_Mi (c_X12_image G l h.1 ) (fun x M' hp => M_image h hp)
theorem jC_undo (G : v_G) (l : Launch) (h : ZJ K I J R g) (hK : K.1 < 700000) : v_M G l yX11_undo cX11_undo 1 (some .int) rm_X11_undo [.ref 0] (K, I, J, R) (v_Qi G (ZCp K g (n_undo g).2 (n_undo g).1)) := by
  have hA11 := h.2.2.2.2.2.1.2
  have him := ZI_im h.2.2.2.2.1
  obtain ⟨n, hn11⟩ := ZI_n h.2.2.2.2.1
  exact v_Mi (c_X11_undo G l h.1 him hn11 hA11) (fun x M' hp => C_undo h hn11 hp)
theorem jM_undo (G : v_G) (l : Launch) (h : ZH K I J R g (n_undo g).2) : v_M G l yX12_undo cX12_undo 2 (some .int) rm_X12_undo [.ref 55] (K, I, J, R) (v_Qi G (ZMp K R (n_undo g).2 (n_undo g).1)) := by
  exact v_Mi (c_X12_undo G l h.1 ) (fun x M' hp => M_undo h hp)
theorem jC_act (G : v_G) (l : Launch) {ii : Int32} {aa : Int32} {z : Int32} (h : ZJ K I J R g) (hK : K.1 < 700000) : v_M G l yX11_act cX11_act 5 (some .int) rm_X11_act [.ref 0, .int ii, .int aa, .int z] (K, I, J, R) (v_Qi G (ZCp K g (z_r g (w_act (u_b (st_u g)) ii aa z).2) (w_act (u_b (st_u g)) ii aa z).1)) := by
  obtain ⟨hm, hv, hf, hcm, hwi, hbo⟩ := h.2.2.2.1
  exact v_Mi (c_X11_act G l h.1 hv hf) (fun x M' hp => C_act h hp)
theorem jM_act (G : v_G) (l : Launch) {ii : Int32} {aa : Int32} {z : Int32} (h : ZH K I J R g (z_r g (w_act (u_b (st_u g)) ii aa z).2)) : v_M G l yX12_act cX12_act 4 (some .int) rm_X12_act [.ref 55, .int ii, .int aa, .int z] (K, I, J, R) (v_Qi G (ZMp K R (z_r g (w_act (u_b (st_u g)) ii aa z).2) (w_act (u_b (st_u g)) ii aa z).1)) := by
  have hW := h.2.2.1.1.1
  exact v_Mi (c_X12_act G l h.1 hW.1) (fun x M' hp => M_act h hp)
theorem jC_trace (G : v_G) (l : Launch) {ii : Int32} (h : ZJ K I J R g) (hK : K.1 < 700000) : v_M G l yX11_trace cX11_trace 2 (some .int) rm_X11_trace [.ref 0, .int ii] (K, I, J, R) (v_Qi G (ZCp K g g (s_trace (st_r g) ii))) := by
  have hY := h.2.2.2.2.2.2.2
  exact v_Mi (c_X11_trace G l h.1 hY.2.2.1.1 hY.2.2.1.2.1 hY.2.2.1.2.2) (fun x M' hp => rC_s h hp)
theorem jM_trace (G : v_G) (l : Launch) {ii : Int32} (h : ZH K I J R g g) : v_M G l yX12_trace cX12_trace 2 (some .int) rm_X12_trace [.ref 55, .int ii] (K, I, J, R) (v_Qi G (ZMp K R g (s_trace (st_r g) ii))) := by
  have hX := h.2.2.1.2.2
  exact v_Mi (c_X12_trace G l h.1 hX.2.2.2.1) (fun x M' hp => rM_s h hp)
theorem jC_taken (G : v_G) (l : Launch) {ii : Int32} {kk : Int32} (h : ZJ K I J R g) (hK : K.1 < 700000) : v_M G l yX11_taken cX11_taken 4 (some .int) rm_X11_taken [.ref 0, .int ii, .int kk] (K, I, J, R) (v_Qi G (ZCp K g g (s_taken (u_b (st_u g)) ii kk))) := by
  obtain ⟨hm, hv, hf, hcm, hwi, hbo⟩ := h.2.2.2.1
  exact v_Mi (c_X11_taken G l h.1 hv hf) (fun x M' hp => rC_s h hp)
theorem jM_taken (G : v_G) (l : Launch) {ii : Int32} {kk : Int32} (h : ZH K I J R g g) : v_M G l yX12_taken cX12_taken 4 (some .int) rm_X12_taken [.ref 55, .int ii, .int kk] (K, I, J, R) (v_Qi G (ZMp K R g (s_taken (u_b (st_u g)) ii kk))) := by
  have hW := h.2.2.1.1.1
  exact v_Mi (c_X12_taken G l h.1 hW.1) (fun x M' hp => rM_s h hp)
theorem jC_count (G : v_G) (l : Launch) {ww : Int32} (h : ZJ K I J R g) (hK : K.1 < 700000) : v_M G l yX11_count cX11_count 2 (some .int) rm_X11_count [.ref 0, .int ww] (K, I, J, R) (v_Qi G (ZCp K g g (s_count (b_n (u_b (st_u g))) (st_t g) (u_w (st_u g)).length (u_k (st_u g)).length (st_x g).length (st_r g).length ww))) := by
  obtain ⟨hm, hv, hf, hcm, hwi, hbo⟩ := h.2.2.2.1
  have hY := h.2.2.2.2.2.2.2
  exact v_Mi (c_X11_count G l h.1 hv.1.1 hY.1 hwi.1 hbo.1 hY.2.1.1 hY.2.2.1.1) (fun x M' hp => rC_s h hp)
theorem jM_count (G : v_G) (l : Launch) {ww : Int32} (h : ZH K I J R g g) : v_M G l yX12_count cX12_count 2 (some .int) rm_X12_count [.ref 55, .int ww] (K, I, J, R) (v_Qi G (ZMp K R g (s_count (b_n (u_b (st_u g))) (st_t g) (u_w (st_u g)).length (u_k (st_u g)).length (st_x g).length (st_r g).length ww))) := by
  have hW := h.2.2.1.1.1
  have hMw := h.2.2.1.1.2.2.2.2.1
  have hMk := h.2.2.1.1.2.2.2.2.2
  have hX := h.2.2.1.2.2
  exact v_Mi (c_X12_count G l h.1 (MVn hW.1) hX.2.2.1.1 hMw.1 hMk.1 hX.1.1 hX.2.2.2.1.1) (fun x M' hp => rM_s h hp)
theorem jC_tape (G : v_G) (l : Launch) {tt : Int32} {ss : Int32} {nn : Int32} (h : ZJ K I J R g) (hK : K.1 < 700000) : v_M G l yX11_tape cX11_tape 4 (some .int) rm_X11_tape [.ref 0, .int tt, .int ss, .int nn] (K, I, J, R) (v_Qi G (ZCp K g (z_p g (w_put (st_p g) (w_tape tt ss nn).2)) (w_tape tt ss nn).1)) := by
  have hY := h.2.2.2.2.2.2.2
  have hTV := h.2.2.1.2.2.2.2.2.2.2
  exact v_Mi (c_X11_tape G l h.1 hY.2.2.2 hTV) (fun x M' hp => C_tp h hp)
theorem jM_tape (G : v_G) (l : Launch) {tt : Int32} {ss : Int32} {nn : Int32} (h : ZH K I J R g (z_p g (w_put (st_p g) (w_tape tt ss nn).2))) : v_M G l yX12_tape cX12_tape 5 (some .int) rm_X12_tape [.ref 55, .int tt, .int ss, .int nn] (K, I, J, R) (v_Qi G (ZMp K R (z_p g (w_put (st_p g) (w_tape tt ss nn).2)) (w_tape tt ss nn).1)) := by
  have hX := h.2.2.1.2.2
  exact v_Mi (c_X12_tape G l h.1 hX.2.2.2.2.1 hX.2.2.2.2.2) (fun x M' hp => M_tp h (TV_tape hX.2.2.2.2.2 _ _ _) hp)
theorem jC_item (G : v_G) (l : Launch) {tt : Int32} {ii : Int32} {z : Int64} (h : ZJ K I J R g) (hK : K.1 < 700000) : v_M G l yX11_item cX11_item 6 (some .int) rm_X11_item [.ref 0, .int tt, .int ii, .long z] (K, I, J, R) (v_Qi G (ZCp K g (z_p g (w_put (st_p g) (w_item (st_p g) tt ii z).2)) (w_item (st_p g) tt ii z).1)) := by
  have hY := h.2.2.2.2.2.2.2
  have hTV := h.2.2.1.2.2.2.2.2.2.2
  exact v_Mi (c_X11_item G l h.1 hY.2.2.2 hTV) (fun x M' hp => C_tp h hp)
theorem jM_item (G : v_G) (l : Launch) {tt : Int32} {ii : Int32} {z : Int64} (h : ZH K I J R g (z_p g (w_put (st_p g) (w_item (st_p g) tt ii z).2))) : v_M G l yX12_item cX12_item 5 (some .int) rm_X12_item [.ref 55, .int tt, .int ii, .long z] (K, I, J, R) (v_Qi G (ZMp K R (z_p g (w_put (st_p g) (w_item (st_p g) tt ii z).2)) (w_item (st_p g) tt ii z).1)) := by
  have hX := h.2.2.1.2.2
  exact v_Mi (c_X12_item G l h.1 hX.2.2.2.2.1 hX.2.2.2.2.2) (fun x M' hp => M_tp h (TV_item hX.2.2.2.2.2 _ _ _) hp)
theorem jC_read (G : v_G) (l : Launch) {tt : Int32} {ii : Int32} (h : ZJ K I J R g) (hK : K.1 < 700000) : v_M G l yX11_read cX11_read 3 (some .long) rm_X11_read [.ref 0, .int tt, .int ii] (K, I, J, R) (v_Ql G (ZCp K g g (s_read (st_p g) tt ii))) := by
  have hY := h.2.2.2.2.2.2.2
  have hTV := h.2.2.1.2.2.2.2.2.2.2
  exact v_Ml (c_X11_read G l h.1 hY.2.2.2 hTV) (fun x M' hp => rC_s h hp)
theorem jM_read (G : v_G) (l : Launch) {tt : Int32} {ii : Int32} (h : ZH K I J R g g) : v_M G l yX12_read cX12_read 3 (some .long) rm_X12_read [.ref 55, .int tt, .int ii] (K, I, J, R) (v_Ql G (ZMp K R g (s_read (st_p g) tt ii))) := by
  have hX := h.2.2.1.2.2
  exact v_Ml (c_X12_read G l h.1 hX.2.2.2.2.1 hX.2.2.2.2.2) (fun x M' hp => rM_s h hp)
theorem jC_shift (G : v_G) (l : Launch) {tt : Int32} {ii : Int32} {oo : Int32} {jj : Int32} {nn : Int32} (h : ZJ K I J R g) (hK : K.1 < 700000) : v_M G l yX11_shift cX11_shift 8 (some .int) rm_X11_shift [.ref 0, .int tt, .int ii, .int oo, .int jj, .int nn] (K, I, J, R) (v_Qi G (ZCp K g (z_p g (w_put (st_p g) (w_shift (st_p g) tt ii oo jj nn).2)) (w_shift (st_p g) tt ii oo jj nn).1)) := by
  have hY := h.2.2.2.2.2.2.2
  have hTV := h.2.2.1.2.2.2.2.2.2.2
  exact v_Mi (c_X11_shift G l h.1 hY.2.2.2 hTV) (fun x M' hp => C_tp h hp)
theorem jM_shift (G : v_G) (l : Launch) {tt : Int32} {ii : Int32} {oo : Int32} {jj : Int32} {nn : Int32} (h : ZH K I J R g (z_p g (w_put (st_p g) (w_shift (st_p g) tt ii oo jj nn).2))) : v_M G l yX12_shift cX12_shift 7 (some .int) rm_X12_shift [.ref 55, .int tt, .int ii, .int oo, .int jj, .int nn] (K, I, J, R) (v_Qi G (ZMp K R (z_p g (w_put (st_p g) (w_shift (st_p g) tt ii oo jj nn).2)) (w_shift (st_p g) tt ii oo jj nn).1)) := by
  have hX := h.2.2.1.2.2
  exact v_Mi (c_X12_shift G l h.1 hX.2.2.2.2.1 hX.2.2.2.2.2) (fun x M' hp => M_tp h (TV_shift hX.2.2.2.2.2 _ _ _ _ _) hp)
end CALLS38
