/-! WHAT A CALL DOES TO THE STATE: feed, act, tapes, image, undo -/
theorem x_nat_lt {p : Int32} {n j : Nat} (h : x_nat p n = some j) : j < n := by
  unfold x_nat at h
  split at h
  · cases h
  · rename_i q
    cases h
    exact Nat.lt_of_not_le (fun w => q (Or.inr w))
/-- a tape that may be -/
def okT (T : TP) : Prop := T.2.1 ≤ 60 ∧ (∀ s, T.1 = some s → s < 5) ∧ (T.1 = none → T.2.1 = 0) ∧ (T.1 = some 4 → ∀ j, T.2.2 j = 0 ∨ T.2.2 j = 1)
theorem TV_put {t : Nat → TP} (h : TV t) {o : Option (Nat × TP)} (ho : ∀ k T, o = some (k, T) → okT T) : TV (w_put t o) := by
  cases o with
  | none => exact h
  | some q =>
    obtain ⟨k, T⟩ := q
    intro i hi
    show ((if i = k then T else t i).2.1 ≤ 60 ∧ _)
    by_cases e : i = k
    · have e2 : w_put t (some (k, T)) i = T := if_pos e
      rw [if_pos e, e2]
      exact ho k T rfl
    · have e2 : w_put t (some (k, T)) i = t i := if_neg e
      rw [if_neg e, e2]
      exact h i hi
theorem TV_tape {t : Nat → TP} (h : TV t) (tt ss nn : Int32) : TV (w_put t (w_tape tt ss nn).2) := TV_put h (fun k T e => by
  unfold w_tape at e
  split at e
  · cases e
  · split at e
    · cases e
      exact ⟨by decide, fun s hs => (by cases hs), fun _ => rfl, fun hs => (by cases hs)⟩
    · split at e
      · cases e
      · rename_i s hs
        split at e
        · rename_i n hn
          cases e
          have h1 := x_nat_lt hs
          have h2 := x_nat_lt hn
          exact ⟨by show n ≤ 60; omega, fun s' hs' => by cases hs'; exact h1, fun q => (by cases q), fun _ _ => Or.inl rfl⟩
        · split at e <;> cases e)
theorem TV_item {t : Nat → TP} (h : TV t) (tt ii : Int32) (z : Int64) : TV (w_put t (w_item t tt ii z).2) := TV_put h (fun k T e => by
  unfold w_item at e
  split at e
  · cases e
  · rename_i k' hk
    have hT := h k' (x_nat_lt hk)
    split at e
    · cases e
    · rename_i s hs
      split at e
      · cases e
      · rename_i j hj
        cases e
        refine ⟨hT.1, fun s' hs' => by cases hs'; exact hT.2.1 s hs, fun q => (by cases q), fun q j' => ?_⟩
        cases q
        show (if j' = j then w_nar 4 z else (t k).2.2 j') = 0 ∨ (if j' = j then w_nar 4 z else (t k).2.2 j') = 1
        split
        · show (if z = 0 then (0 : Int64) else 1) = 0 ∨ (if z = 0 then (0 : Int64) else 1) = 1
          split
          · exact Or.inl rfl
          · exact Or.inr rfl
        · exact hT.2.2.2 hs j')
theorem TV_shift {t : Nat → TP} (h : TV t) (tt ii oo jj nn : Int32) : TV (w_put t (w_shift t tt ii oo jj nn).2) := TV_put h (fun k T e => by
  unfold w_shift at e
  split at e
  · rename_i k' o hk ho
    have hT := h k' (x_nat_lt hk)
    have hU := h o (x_nat_lt ho)
    split at e
    · rename_i s s' hs hs'
      split at e
      · rename_i hss
        subst hss
        split at e
        · cases e
          refine ⟨hU.1, hU.2.1, hU.2.2.1, fun q j => ?_⟩
          have q : (t k).1 = some 4 := q
          have q2 : (t k').1 = some 4 := by rw [hs, ← hs', q]
          unfold w_shf
          dsimp only
          split
          · exact hT.2.2.2 q2 _
          · exact hU.2.2.2 q _
        · cases e
      · cases e
    · cases e
  · cases e)
section CALLS
variable {K : Nat × v_TY} {I : Nat → Nat → Int32} {J : Nat → Nat → Int64} {R : Nat → Nat → Option Nat} {g g' : ZS} {x : Int32} {M' : v_MM}
theorem ZC_y {I' : Nat → Nat → Int32} {J' : Nat → Nat → Int64} (h : ZC K I J R g) (hK : 91 ≤ K.1) (e1 : st_u g' = st_u g) (e2 : st_o g' = st_o g) (e : ∀ a z, ¬ (a = 37 ∨ a = 39 ∨ a = 40 ∨ (43 ≤ a ∧ a ≤ 54) ∨ (a = 0 ∧ z = 7)) → I' a z = I a z) (hY : ZY I' J' g') : ZC K I' J' R g' := by
  obtain ⟨h1, h2, h3, h4, h5⟩ := h
  refine ⟨?_, ?_, h3, h4, hY⟩
  · rw [e1]; exact ZW_c h1 (Or.inl rfl) hK UPK_rf (fun a z _ q => e a z (by unfold cw at q; omega)) (fun _ _ _ _ => rfl)
  · rw [e2]; exact ZI_c h2 hK UPK_rf (e 0 3 (by omega)) (fun a z _ q => e a z (by unfold cw at q; omega)) (fun _ _ _ _ => rfl)
theorem ZR_x {I' : Nat → Nat → Int32} {J' : Nat → Nat → Int64} (h : ZR I J g) (e1 : st_u g' = st_u g) (e2 : st_o g' = st_o g) (e3 : st_t g' = st_t g) (e : ∀ a z, ¬ (a = 61 ∨ a = 86 ∨ a = 87 ∨ a = 88 ∨ (a = 55 ∧ (z = 10 ∨ z = 55))) → I' a z = I a z) (hX : ZX I' J' g') : ZR I' J' g' := by
  have h6 := h.2.2.2.2.1.2
  refine ⟨?_, ?_, hX⟩
  · rw [e1, e3]; exact MVI_c h.1 h6 (fun a z q => e a z (by unfold m_v m_tw at q; omega))
  · rw [e2, e3]; exact ZO_c h.2.1 h6 (fun a z q => e a z (by unfold m_o m_tw at q; omega))
/-! feed -/
def z_x (g : ZS) (T : List Nat) : ZS := (st_u g, st_o g, st_t g, T, st_p g, st_r g)
def n_feed (g : ZS) (ss : Int32) : Int32 × ZS := match x_nat ss 128 with
  | none => (-2, g)
  | some s => if (st_x g).length = 100 then (-4, g) else (nI ((st_x g).length + 1), z_x g (st_x g ++ [s]))
theorem C_feed {ss : Int32} (h : ZJ K I J R g) (hp : (x_nat ss 128 = none ∧ x = -2 ∧ M' = (K, I, J, R)) ∨ ((∃ s, s < 128 ∧ x_nat ss 128 = some s) ∧ (st_x g).length = 100 ∧ x = -4 ∧ M' = (K, I, J, R)) ∨ (∃ s, s < 128 ∧ ss = nI s ∧ x_nat ss 128 = some s ∧ (st_x g).length < 100 ∧ x = nI ((st_x g).length + 1) ∧ M' = (K, v_u (v_u I 37 (st_x g).length (nI s)) 0 7 (nI ((st_x g).length + 1)), J, R))) :
    ZCp K g (n_feed g ss).2 (n_feed g ss).1 x M' := by
  rcases hp with ⟨c1, rfl, rfl⟩ | ⟨⟨s, hs, c1⟩, c2, rfl, rfl⟩ | ⟨s, hs, -, c1, c2, rfl, rfl⟩
  · simp only [n_feed, c1]; exact ZCp_s h
  · simp only [n_feed, c1, if_pos c2]; exact ZCp_s h
  · simp only [n_feed, c1, if_neg (Nat.ne_of_lt c2)]
    obtain ⟨y1, ⟨y2, y3, y4⟩, y5, y6⟩ := h.2.2.2.2.2.2.2
    generalize hl : (st_x g).length = L at c2 ⊢
    have f : ∀ a z, (a = 37 → z ≠ L) → (a = 0 → z ≠ 7) → v_u (v_u I 37 L (nI s)) 0 7 (nI (L + 1)) a z = I a z := fun a z n1 n2 => by
      simp only [v_u]
      rw [if_neg (by omega), if_neg (by omega)]
    have e37 : v_u (v_u I 37 L (nI s)) 0 7 (nI (L + 1)) 37 L = nI s := by rw [v_u_h (by omega)]; exact v_u_same
    refine ⟨rfl, K, _, J, R, rfl, ZH_C h h.1 (Nat.le_refl _) (fun a z l1 l2 => f a z (by omega) (by omega)) (fun _ => rfl) (ZC_y h.2.2.2 h.2.1 rfl rfl (fun a z q => f a z (by omega) (by omega)) ⟨(f _ _ (by omega) (by omega)).trans y1, ⟨?_, ap_all (fun j q hj hq => ⟨(f 37 j (by omega) (by omega)).trans (y3 j q hq).1, (y3 j q hq).2⟩) ⟨by rw [hl]; exact e37, hs⟩, fun j hj => ?_⟩, ⟨(f _ _ (by omega) (by omega)).trans y5.1, y5.2.1, fun j q hq => (f _ _ (by omega) (by omega)).trans (y5.2.2 j q hq)⟩, fun i hi => ⟨(f _ _ (by omega) (by omega)).trans (y6 i hi).1, (f _ _ (by omega) (by omega)).trans (y6 i hi).2.1, (y6 i hi).2.2⟩⟩), by omega⟩
    · show _ = nI (st_x g ++ [s]).length
      rw [List.length_append, hl]; exact v_u_same
    · by_cases e : j = L
      · subst e; exact ⟨s, hs, e37⟩
      · obtain ⟨c, q1, q2⟩ := y4 j hj
        exact ⟨c, q1, (f 37 j (by omega) (by omega)).trans q2⟩
theorem M_feed {ss : Int32} (h : ZH K I J R g (n_feed g ss).2) (hp : (x_nat ss 128 = none ∧ x = -2 ∧ M' = (K, I, J, R)) ∨ ((∃ s, s < 128 ∧ x_nat ss 128 = some s) ∧ (st_x g).length = 100 ∧ x = -4 ∧ M' = (K, I, J, R)) ∨ (∃ s, s < 128 ∧ ss = nI s ∧ x_nat ss 128 = some s ∧ (st_x g).length < 100 ∧ x = nI ((st_x g).length + 1) ∧ M' = (K, v_u (v_u I 61 (st_x g).length (nI s)) 55 10 (nI ((st_x g).length + 1)), J, R))) :
    ZMp K R (n_feed g ss).2 (n_feed g ss).1 x M' := by
  rcases hp with ⟨c1, rfl, rfl⟩ | ⟨⟨s, hs, c1⟩, c2, rfl, rfl⟩ | ⟨s, hs, -, c1, c2, rfl, rfl⟩
  · simp only [n_feed, c1] at h ⊢; exact ZMp_s h
  · simp only [n_feed, c1, if_pos c2] at h ⊢; exact ZMp_s h
  · simp only [n_feed, c1, if_neg (Nat.ne_of_lt c2)] at h ⊢
    obtain ⟨hx, hl0, ht, hr, hp, hv⟩ := h.2.2.1.2.2
    generalize hl : (st_x g).length = L at c2 h ⊢
    have f : ∀ a z, (a = 61 → z ≠ L) → (a = 55 → z ≠ 10) → v_u (v_u I 61 L (nI s)) 55 10 (nI (L + 1)) a z = I a z := fun a z n1 n2 => by
      simp only [v_u]
      rw [if_neg (by omega), if_neg (by omega)]
    have e61 : v_u (v_u I 61 L (nI s)) 55 10 (nI (L + 1)) 61 L = nI s := by rw [v_u_h (by omega)]; exact v_u_same
    refine ⟨rfl, _, J, rfl, ZH_M h (fun a z q => f a z (by omega) (by omega)) (fun _ _ _ => rfl) (ZR_x h.2.2.1 rfl rfl rfl (fun a z q => f a z (by omega) (by omega)) ⟨⟨?_, ?_, ap_all (fun j q hj hq => ⟨(f 61 j (by omega) (by omega)).trans (hx.2.2 j q hq).1, (hx.2.2 j q hq).2⟩) ⟨by rw [hl]; exact e61, hs⟩⟩, fun j c hj => (f 69 j (by omega) (by omega)).trans (hl0 j c hj), ⟨(f _ _ (by omega) (by omega)).trans ht.1, ht.2⟩, ⟨(f _ _ (by omega) (by omega)).trans hr.1, hr.2.1, fun j q hq => (f _ _ (by omega) (by omega)).trans (hr.2.2 j q hq)⟩, fun i hi => ⟨(f _ _ (by omega) (by omega)).trans (hp i hi).1, (f _ _ (by omega) (by omega)).trans (hp i hi).2.1, (hp i hi).2.2⟩, hv⟩)⟩
    · show _ = nI (st_x g ++ [s]).length
      rw [List.length_append, hl]; exact v_u_same
    · show (st_x g ++ [s]).length ≤ 100
      rw [List.length_append, hl]; show L + 1 ≤ 100; omega
/-! act -/
def z_r (g : ZS) (r : List Nat) : ZS := (st_u g, st_o g, st_t g, st_x g, st_p g, r)
theorem C_act {A : Int32} {r : List Nat} (h : ZJ K I J R g) (hp : x = A ∧ ∃ I', M' = (K, I', J, R) ∧ CTr I' r ∧ kR I I') : ZCp K g (z_r g r) A x M' := by
  obtain ⟨rfl, I', rfl, h1, h2⟩ := hp
  obtain ⟨y1, ⟨y2, y3, y4⟩, y5, y6⟩ := h.2.2.2.2.2.2.2
  have f : ∀ a z, a ≠ 40 → a ≠ 39 → I' a z = I a z := fun a z n1 n2 => h2 a z n1 (fun q => n2 q.1)
  refine ⟨rfl, K, I', J, R, rfl, ZH_C h h.1 (Nat.le_refl _) (fun a z l1 l2 => f a z (by omega) (by omega)) (fun _ => rfl) (ZC_y h.2.2.2 h.2.1 rfl rfl (fun a z q => f a z (by omega) (by omega)) ⟨(f _ _ (by omega) (by omega)).trans y1, ⟨(f _ _ (by omega) (by omega)).trans y2, fun j c hj => ⟨(f _ _ (by omega) (by omega)).trans (y3 j c hj).1, (y3 j c hj).2⟩, fun j hj => ?_⟩, h1, fun i hi => ⟨(f _ _ (by omega) (by omega)).trans (y6 i hi).1, (f _ _ (by omega) (by omega)).trans (y6 i hi).2.1, (y6 i hi).2.2⟩⟩), by omega⟩
  obtain ⟨c, q1, q2⟩ := y4 j hj
  exact ⟨c, q1, (f 37 j (by omega) (by omega)).trans q2⟩
theorem M_act {A : Int32} {r : List Nat} (h : ZH K I J R g (z_r g r)) (hp : x = A ∧ ∃ I', M' = (K, I', J, R) ∧ MTr I' r ∧ mR I I') : ZMp K R (z_r g r) A x M' := by
  obtain ⟨rfl, I', rfl, h1, h2⟩ := hp
  obtain ⟨hx, hl0, ht, hr, hp, hv⟩ := h.2.2.1.2.2
  have f : ∀ a z, a ≠ 86 → ¬ (a = 55 ∧ z = 55) → I' a z = I a z := h2
  exact ⟨rfl, I', J, rfl, ZH_M h (fun a z q => f a z (by omega) (by omega)) (fun _ _ _ => rfl) (ZR_x h.2.2.1 rfl rfl rfl (fun a z q => f a z (by omega) (by omega)) ⟨⟨(f _ _ (by omega) (by omega)).trans hx.1, hx.2.1, fun j c hj => ⟨(f _ _ (by omega) (by omega)).trans (hx.2.2 j c hj).1, (hx.2.2 j c hj).2⟩⟩, fun j c hj => (f 69 j (by omega) (by omega)).trans (hl0 j c hj), ⟨(f _ _ (by omega) (by omega)).trans ht.1, ht.2⟩, h1, fun i hi => ⟨(f _ _ (by omega) (by omega)).trans (hp i hi).1, (f _ _ (by omega) (by omega)).trans (hp i hi).2.1, (hp i hi).2.2⟩, hv⟩)⟩
/-! tapes -/
def z_p (g : ZS) (t : Nat → TP) : ZS := (st_u g, st_o g, st_t g, st_x g, t, st_r g)
theorem C_tp {A : Int32} {t : Nat → TP} (h : ZJ K I J R g) (hp : x = A ∧ ∃ I' J', M' = (K, I', J', R) ∧ CTp I' J' t ∧ kT I J I' J') : ZCp K g (z_p g t) A x M' := by
  obtain ⟨rfl, I', J', rfl, h1, h2, h3⟩ := hp
  obtain ⟨y1, ⟨y2, y3, y4⟩, y5, y6⟩ := h.2.2.2.2.2.2.2
  refine ⟨rfl, K, I', J', R, rfl, ZH_C h h.1 (Nat.le_refl _) (fun a z l1 l2 => h2 a z (by omega)) (fun z => h3 _ z (by omega)) (ZC_y h.2.2.2 h.2.1 rfl rfl (fun a z q => h2 a z (by omega)) ⟨(h2 _ _ (by omega)).trans y1, ⟨(h2 _ _ (by omega)).trans y2, fun j c hj => ⟨(h2 _ _ (by omega)).trans (y3 j c hj).1, (y3 j c hj).2⟩, fun j hj => ?_⟩, ⟨(h2 _ _ (by omega)).trans y5.1, y5.2.1, fun j q hq => (h2 _ _ (by omega)).trans (y5.2.2 j q hq)⟩, h1⟩), by omega⟩
  obtain ⟨c, q1, q2⟩ := y4 j hj
  exact ⟨c, q1, (h2 37 j (by omega)).trans q2⟩
theorem M_tp {A : Int32} {t : Nat → TP} (h : ZH K I J R g (z_p g t)) (hv : TV t) (hp : x = A ∧ ∃ I' J', M' = (K, I', J', R) ∧ MTp I' J' t ∧ mT I J I' J') : ZMp K R (z_p g t) A x M' := by
  obtain ⟨rfl, I', J', rfl, h1, h2, h3⟩ := hp
  obtain ⟨hx, hl0, ht, hr, hp, hv0⟩ := h.2.2.1.2.2
  exact ⟨rfl, I', J', rfl, ZH_M h (fun a z q => h2 a z (by omega) (by omega)) (fun a z q => h3 a z (by omega) (by omega)) (ZR_x h.2.2.1 rfl rfl rfl (fun a z q => h2 a z (by omega) (by omega)) ⟨⟨(h2 _ _ (by omega) (by omega)).trans hx.1, hx.2.1, fun j c hj => ⟨(h2 _ _ (by omega) (by omega)).trans (hx.2.2 j c hj).1, (hx.2.2 j c hj).2⟩⟩, fun j c hj => (h2 69 j (by omega) (by omega)).trans (hl0 j c hj), ⟨(h2 _ _ (by omega) (by omega)).trans ht.1, ht.2⟩, ⟨(h2 _ _ (by omega) (by omega)).trans hr.1, hr.2.1, fun j q hq => (h2 _ _ (by omega) (by omega)).trans (hr.2.2 j q hq)⟩, h1, hv⟩)⟩
/-! image, undo -/
theorem ZW_BE {I' : Nat → Nat → Int32} {R' : Nat → Nat → Option Nat} {u : VI} {h q : Nat} (hW : ZW K I R q u) (hB : BE I I' R R' h q) (hh : v_3 h) (hO : OV u) : ZW K I' R' h u := by
  obtain ⟨hm, h1, h2, h3, h4, h5⟩ := hW
  have hB' := hB
  obtain ⟨⟨b0, b1, b2, b8, b11⟩, ⟨a2, a3, a4, a5, a6, a7, a8⟩, r, f1, f2⟩ := hB
  refine ⟨hm, CV_BE h1 hB' hh, h2, fun i hi => (a4 i hi).trans (h3 i hi), ⟨b8.trans h4.1, fun j w hw => ?_⟩, ⟨b11.trans h5.1, fun j w hw => ?_⟩⟩
  · have hj : j < 6 := Nat.lt_of_lt_of_le (List.getElem?_eq_some_iff.mp hw).1 hO.2.2.1
    exact ⟨(a5 j hj).trans (h4.2 j w hw).1, (a6 j hj).trans (h4.2 j w hw).2⟩
  · have hj : j < 12 := Nat.lt_of_lt_of_le (List.getElem?_eq_some_iff.mp hw).1 hO.2.2.2.2.1
    exact ⟨(a7 j hj).trans (h5.2 j w hw).1, (a8 j hj).trans (h5.2 j w hw).2⟩
def n_image (g : ZS) : Int32 × ZS := (nI (b_n (u_b (st_u g))), (st_u g, some (st_u g), g.2.2))
theorem C_image (h : ZJ K I J R g) (hp : x = nI (b_n (u_b (st_u g))) ∧ M' = (K, v_u (beA I 11 1) 0 3 (nI 1), J, beR R 11 1)) : ZCp K g (n_image g).2 (n_image g).1 x M' := by
  obtain ⟨rfl, rfl⟩ := hp
  obtain ⟨hL, hK, hR, hW, hI, hA, ⟨tt, t1, t2, t3⟩, hY⟩ := id h
  have hB := BE_of (I := I) (R := R) (h := 11) (g := 1) (Or.inr (Or.inl rfl)) (Or.inl rfl) (by omega)
  obtain ⟨-, -, ⟨r1, r2⟩, f1, f2⟩ := id hB
  have f : ∀ a z, (a = 0 → z ≠ 3) → (a < 11 ∨ 19 < a) → v_u (beA I 11 1) 0 3 (nI 1) a z = I a z := fun a z n l => by
    simp only [v_u]
    rw [if_neg (by omega)]
    exact f1 a z l
  refine ⟨rfl, K, _, J, _, rfl, ZH_C h (Lay_be hL (Or.inr (Or.inl rfl))) (Nat.le_refl _) (fun a z l1 l2 => f a z (by omega) (by omega)) (fun _ => rfl) ⟨?_, ⟨v_u_same, ?_⟩, ⟨?_, ?_⟩, ?_, ?_⟩, by omega⟩
  · exact ZW_c hW (Or.inl rfl) hK UPK_rf (fun a z _ q => f a z (by unfold cw at q; omega) (by unfold cw at q; omega)) (fun a z _ q => f2 a z (by omega) (by omega))
  · exact ZW_c (ZW_BE hW hB (Or.inr (Or.inl rfl)) hR.1.2.1) (Or.inr rfl) hK UPK_rf (fun a z _ q => v_u_h (by unfold cw at q; omega)) (fun _ _ _ _ => rfl)
  · exact CPA_c hA.1 UPK_rf (fun z => f2 _ z (by omega) (by omega))
  · exact fun i hi a ha => hA.1 i hi a ((r2 i hi).symm.trans ha)
  · refine ⟨tt, (f2 _ _ (by omega) (by omega)).trans t1, TH_R t2 (fun z => f2 tt z (by have := t2.2.2.2; omega) (by have := t2.2.2.2; omega)), fun k hk t' ht => ?_⟩
    rcases hk with rfl | rfl
    · exact t3 1 (Or.inl rfl) t' ((f2 _ _ (by omega) (by omega)).symm.trans ht)
    · exact t3 1 (Or.inl rfl) t' (r1.symm.trans ht)
  · exact ZY_c (g := g) hY (fun a z q => f a z (by unfold m_y at q; omega) (by unfold m_y at q; omega)) (fun _ _ _ _ => rfl)
theorem M_image (h : ZH K I J R g (n_image g).2) (hp : x = I 55 0 ∧ M' = (K, w_im I, J, R)) : ZMp K R (n_image g).2 (n_image g).1 x M' := by
  obtain ⟨rfl, rfl⟩ := hp
  have hR := h.2.2.1
  have h6 := hR.2.2.2.2.1.2
  have f : ∀ a z, (a < 77 ∨ 85 < a) → (a = 55 → z < 40 ∨ 45 < z) → w_im I a z = I a z := fun a z l n => by
    by_cases e : a = 55
    · subst e; exact im_f (n rfl)
    · exact im_o (by omega)
  refine ⟨MVn hR.1.1.1, _, J, rfl, ZH_M h (fun a z q => im_o (by omega)) (fun _ _ _ => rfl) ⟨MVI_c hR.1 h6 (fun a z q => f a z (by unfold m_v m_tw at q; omega) (by unfold m_v m_tw at q; omega)), ⟨im_40, un_im hR.1 h6⟩, ZX_c (g := g) hR.2.2 (fun a z q => f a z (by unfold m_x at q; omega) (by unfold m_x at q; omega)) (fun _ => rfl)⟩⟩
def n_undo (g : ZS) : Int32 × ZS := match st_o g with
  | none => (-3, g)
  | some u => (nI (b_n (u_b u)), (u, some u, g.2.2))
theorem C_undo {n : Nat} (h : ZJ K I J R g) (hn : I 11 0 = nI n) (hp : ((st_o g).isSome = false ∧ x = -3 ∧ M' = (K, I, J, R)) ∨ ((st_o g).isSome = true ∧ x = nI n ∧ M' = (K, beA I 1 11, J, beR R 1 11))) : ZCp K g (n_undo g).2 (n_undo g).1 x M' := by
  rcases hp with ⟨c1, rfl, rfl⟩ | ⟨c1, rfl, rfl⟩
  · have e : st_o g = none := by cases q : st_o g with
      | none => rfl
      | some u => rw [q] at c1; cases c1
    simp only [n_undo, e]; exact ZCp_s h
  · obtain ⟨u, e⟩ : ∃ u, st_o g = some u := by cases q : st_o g with
      | none => rw [q] at c1; cases c1
      | some u => exact ⟨u, rfl⟩
    simp only [n_undo, e]
    obtain ⟨hL, hK, hR, hW, hI, hA, ⟨tt, t1, t2, t3⟩, hY⟩ := id h
    rw [e] at hI
    have hO : OV u := by have := hR.2.1; rw [e] at this; exact this.2.2.1
    have hB := BE_of (I := I) (R := R) (h := 1) (g := 11) (Or.inl rfl) (Or.inr (Or.inl rfl)) (by omega)
    obtain ⟨-, -, ⟨r1, r2⟩, f1, f2⟩ := id hB
    obtain ⟨hm, w1, -⟩ := id hI.2
    refine ⟨(hn.symm.trans w1.1.1), K, _, J, _, rfl, ZH_C h (Lay_be hL (Or.inl rfl)) (Nat.le_refl _) (fun a z l1 l2 => f1 a z (by omega)) (fun _ => rfl) ⟨ZW_BE hI.2 hB (Or.inl rfl) hO, ⟨(f1 _ _ (by omega)).trans hI.1, ?_⟩, ⟨?_, ?_⟩, ?_, ?_⟩, by omega⟩
    · exact ZW_c hI.2 (Or.inr rfl) hK UPK_rf (fun a z _ q => f1 a z (by unfold cw at q; omega)) (fun a z _ q => f2 a z (by omega) (by omega))
    · exact fun i hi a ha => hA.2 i hi a ((r2 i hi).symm.trans ha)
    · exact CPA_c hA.2 UPK_rf (fun z => f2 _ z (by omega) (by omega))
    · refine ⟨tt, (f2 _ _ (by omega) (by omega)).trans t1, TH_R t2 (fun z => f2 tt z (by have := t2.2.2.2; omega) (by have := t2.2.2.2; omega)), fun k hk t' ht => ?_⟩
      rcases hk with rfl | rfl
      · exact t3 11 (Or.inr rfl) t' (r1.symm.trans ht)
      · exact t3 11 (Or.inr rfl) t' ((f2 _ _ (by omega) (by omega)).symm.trans ht)
    · exact ZY_c (g := g) hY (fun a z q => f1 a z (by unfold m_y at q; omega)) (fun _ _ _ _ => rfl)
theorem M_undo (h : ZH K I J R g (n_undo g).2) (hp : (I 55 40 = 0 ∧ x = -3 ∧ M' = (K, I, J, R)) ∨ (I 55 40 ≠ 0 ∧ x = I 55 42 ∧ M' = (K, w_un I, J, R))) : ZMp K R (n_undo g).2 (n_undo g).1 x M' := by
  have hR := h.2.2.1
  have h6 := hR.2.2.2.2.1.2
  have hO := hR.2.1
  cases e : st_o g with
  | none =>
    rw [e] at hO
    rcases hp with ⟨c1, rfl, rfl⟩ | ⟨c1, rfl, rfl⟩
    · simp only [n_undo, e] at h ⊢; exact ZMp_s h
    · exact absurd hO c1
  | some u =>
    rw [e] at hO
    rcases hp with ⟨c1, rfl, rfl⟩ | ⟨c1, rfl, rfl⟩
    · exact absurd (hO.1.symm.trans c1) (by decide)
    · simp only [n_undo, e] at h ⊢
      have f : ∀ a z, (60 < a ∧ a < 73 ∨ 76 < a) ∨ (a = 55 ∧ z ≠ 0 ∧ z ≠ 1 ∧ z ≠ 9 ∧ z ≠ 34 ∧ z ≠ 35) → w_un I a z = I a z := fun a z q => by
        rcases q with q | ⟨rfl, q⟩
        · exact un_o (by omega)
        · exact un_f q
      exact ⟨un_0.symm.trans (MVn hO.2.1.1), _, J, rfl, ZH_M h (fun a z q => un_o (by omega)) (fun _ _ _ => rfl) ⟨hO.2, ⟨(f 55 40 (by omega)).trans hO.1, un_un hO.2 h6⟩, ZX_c (g := g) hR.2.2 (fun a z q => f a z (by unfold m_x at q; omega)) (fun _ => rfl)⟩⟩
end CALLS
