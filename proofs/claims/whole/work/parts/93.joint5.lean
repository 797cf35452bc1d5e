/-! WHAT A CALL DOES TO THE STATE: wish, book, feed, act, tapes -/
theorem ap_all {α : Type} {w : List α} {x : α} {P : Nat → α → Prop} (h : ∀ j q, j < w.length → w[j]? = some q → P j q) (hx : P w.length x) : ∀ j q, (w ++ [x])[j]? = some q → P j q := by
  intro j q hq
  by_cases hj : j < w.length
  · rw [List.getElem?_append_left hj] at hq
    exact h j q hj hq
  · have hl := (List.getElem?_eq_some_iff.mp hq).1
    rw [List.length_append] at hl
    have e : j = w.length := by simp at hl; omega
    subst e
    rw [List.getElem?_append_right (Nat.le_refl _), Nat.sub_self] at hq
    cases hq
    exact hx
section CALLS
variable {K : Nat × v_TY} {I : Nat → Nat → Int32} {J : Nat → Nat → Int64} {R : Nat → Nat → Option Nat} {g g' : ZS} {x : Int32} {M' : v_MM}
/-- the class's village, but its wishes and its book -/
theorem ZW_w {I' : Nat → Nat → Int32} {u : VI} {w : List (Nat × Bool)} {k : List (Nat × Nat)} (hW : ZW K I R 1 u) (e : ∀ a z, (a = 1 → z ≠ 8 ∧ z ≠ 11) → a ≠ 6 → a ≠ 7 → a ≠ 8 → a ≠ 9 → I' a z = I a z) (hw : CWi I' 1 w) (hk : CBo I' 1 k) : ZW K I' R 1 (u_b u, u_c u, u_p u, w, k) := by
  obtain ⟨hm, h1, h2, h3, h4, h5⟩ := hW
  exact ⟨hm, CV_n h1 (Or.inl rfl) ⟨(e _ _ (by omega) (by omega) (by omega) (by omega) (by omega)).trans h1.1.1, (e _ _ (by omega) (by omega) (by omega) (by omega) (by omega)).trans h1.1.2.1, (e _ _ (by omega) (by omega) (by omega) (by omega) (by omega)).trans h1.1.2.2.1, fun q hq => (e _ _ (by omega) (by omega) (by omega) (by omega) (by omega)).trans (h1.1.2.2.2.1 q hq), fun q hq => (e _ _ (by omega) (by omega) (by omega) (by omega) (by omega)).trans (h1.1.2.2.2.2 q hq)⟩ h1.2.1 ⟨rfl, rfl, rfl⟩ (fun a z q => e a z (by omega) (by omega) (by omega) (by omega) (by omega)), h2, fun q hq => (e _ _ (by omega) (by omega) (by omega) (by omega) (by omega)).trans (h3 q hq), hw, hk⟩
/-- the reference's -/
theorem MVI_w {I' : Nat → Nat → Int32} {t : Nat} {u : VI} {w : List (Nat × Bool)} {k : List (Nat × Nat)} (h : MVI I t u) (e : ∀ a z, (a = 55 → z ≠ 34 ∧ z ≠ 35) → a ≠ 73 → a ≠ 74 → a ≠ 75 → a ≠ 76 → I' a z = I a z) (hO : OV (u_b u, u_c u, u_p u, w, k)) (hw : MWi I' w) (hk : MBo I' k) : MVI I' t (u_b u, u_c u, u_p u, w, k) := by
  obtain ⟨hW, -, hc, ht, -, -⟩ := h
  have hV := hW.1
  refine ⟨⟨⟨⟨(e _ _ (by omega) (by omega) (by omega) (by omega) (by omega)).trans hV.1.1, (e _ _ (by omega) (by omega) (by omega) (by omega) (by omega)).trans hV.1.2.1, fun q hq => (e _ _ (by omega) (by omega) (by omega) (by omega) (by omega)).trans (hV.1.2.2.1 q hq), fun q hq => (e _ _ (by omega) (by omega) (by omega) (by omega) (by omega)).trans (hV.1.2.2.2.1 q hq), fun q hq => (e _ _ (by omega) (by omega) (by omega) (by omega) (by omega)).trans (hV.1.2.2.2.2.1 q hq), fun q hq => (e _ _ (by omega) (by omega) (by omega) (by omega) (by omega)).trans (hV.1.2.2.2.2.2 q hq)⟩, hV.2.1, ?_⟩, MP_e hW.2 (fun a z q => e a z (by omega) (by omega) (by omega) (by omega) (by omega))⟩, hO, fun q hq => (e _ _ (by omega) (by omega) (by omega) (by omega) (by omega)).trans (hc q hq), ?_, hw, hk⟩
  · unfold MG
    rw [e 55 2 (by omega) (by omega) (by omega) (by omega) (by omega)]
    exact hV.2.2
  · rw [e 55 9 (by omega) (by omega) (by omega) (by omega) (by omega)]; exact ht
/-! wish -/
def n_wish (g : ZS) (pp : Int32) (ar : Bool) : Int32 × ZS := if pp = -1 then (0, z_u g (u_b (st_u g), u_c (st_u g), u_p (st_u g), [], u_k (st_u g))) else match x_nat pp (w_pr (b_n (u_b (st_u g)))) with
  | none => (-1, g)
  | some i => if (u_w (st_u g)).length = 6 then (-4, g) else (nI ((u_w (st_u g)).length + 1), z_u g (u_b (st_u g), u_c (st_u g), u_p (st_u g), u_w (st_u g) ++ [(i, ar)], u_k (st_u g)))
theorem C_wish {pp : Int32} {ar : Bool} (h : ZJ K I J R g)
    (hp : (pp = -1 ∧ x = 0 ∧ M' = (K, v_u I 1 8 (nI 0), J, R)) ∨ (pp ≠ -1 ∧ x_nat pp (w_pr (b_n (u_b (st_u g)))) = none ∧ x = -1 ∧ M' = (K, I, J, R)) ∨ (pp ≠ -1 ∧ (∃ i, x_nat pp (w_pr (b_n (u_b (st_u g)))) = some i) ∧ (u_w (st_u g)).length = 6 ∧ x = -4 ∧ M' = (K, I, J, R)) ∨ (∃ i, i < w_pr (b_n (u_b (st_u g))) ∧ pp ≠ -1 ∧ x_nat pp (w_pr (b_n (u_b (st_u g)))) = some i ∧ (u_w (st_u g)).length < 6 ∧ x = nI ((u_w (st_u g)).length + 1) ∧ M' = (K, v_u (v_u (v_u I 6 (u_w (st_u g)).length (nI i)) 7 (u_w (st_u g)).length (nI (if ar = true then 1 else 0))) 1 8 (nI ((u_w (st_u g)).length + 1)), J, R))) :
    ZCp K g (n_wish g pp ar).2 (n_wish g pp ar).1 x M' := by
  have hW := h.2.2.2.1
  rcases hp with ⟨c0, rfl, rfl⟩ | ⟨c0, c1, rfl, rfl⟩ | ⟨c0, ⟨i, c1⟩, c2, rfl, rfl⟩ | ⟨i, hi, c0, c1, c2, rfl, rfl⟩
  · simp only [n_wish, if_pos c0]
    obtain ⟨hm, h1, h2, h3, h4, h5⟩ := id hW
    have f : ∀ a z, (a = 1 → z ≠ 8) → v_u I 1 8 (nI 0) a z = I a z := fun a z n => by simp only [v_u]; rw [if_neg (by omega)]
    exact ZCp_u h (ZW_w hW (fun a z n _ _ _ _ => f a z (fun q => (n q).1)) ⟨v_u_same, fun j q hq => by cases hq⟩ ⟨(f _ _ (by omega)).trans h5.1, fun j q hq => ⟨(f _ _ (by omega)).trans (h5.2 j q hq).1, (f _ _ (by omega)).trans (h5.2 j q hq).2⟩⟩) (fun a z q => f a z (by omega))
  · simp only [n_wish, if_neg c0, c1]; exact ZCp_s h
  · simp only [n_wish, if_neg c0, c1, if_pos c2]; exact ZCp_s h
  · simp only [n_wish, if_neg c0, c1, if_neg (Nat.ne_of_lt c2)]
    obtain ⟨hm, h1, h2, h3, h4, h5⟩ := id hW
    generalize hl : (u_w (st_u g)).length = L at c2 ⊢
    have f : ∀ a z, (a = 1 → z ≠ 8) → (a = 6 → z ≠ L) → (a = 7 → z ≠ L) → v_u (v_u (v_u I 6 L (nI i)) 7 L (nI (if ar = true then 1 else 0))) 1 8 (nI (L + 1)) a z = I a z := fun a z n1 n2 n3 => by
      simp only [v_u]
      rw [if_neg (by omega), if_neg (by omega), if_neg (by omega)]
    refine ZCp_u h (ZW_w hW (fun a z n n6 n7 _ _ => f a z (fun q => (n q).1) (by omega) (by omega)) ⟨?_, ap_all (fun j q hj hq => ⟨(f 6 j (by omega) (by omega) (by omega)).trans (h4.2 j q hq).1, (f 7 j (by omega) (by omega) (by omega)).trans (h4.2 j q hq).2⟩) ⟨?_, ?_⟩⟩ ⟨(f _ _ (by omega) (by omega) (by omega)).trans h5.1, fun j q hq => ⟨(f _ _ (by omega) (by omega) (by omega)).trans (h5.2 j q hq).1, (f _ _ (by omega) (by omega) (by omega)).trans (h5.2 j q hq).2⟩⟩) (fun a z q => f a z (by omega) (by omega) (by omega))
    · rw [List.length_append, hl, v_u_same]; rfl
    · rw [hl, v_u_h (by omega), v_u_h (by omega)]; exact v_u_same
    · rw [hl, v_u_h (by omega)]; exact v_u_same
theorem M_wish {pp : Int32} {ar : Bool} (h : ZH K I J R g (n_wish g pp ar).2)
    (hp : (pp = -1 ∧ x = 0 ∧ M' = (K, v_u I 55 34 (nI 0), J, R)) ∨ (pp ≠ -1 ∧ x_nat pp (w_pr (b_n (u_b (st_u g)))) = none ∧ x = -1 ∧ M' = (K, I, J, R)) ∨ (pp ≠ -1 ∧ (∃ i, x_nat pp (w_pr (b_n (u_b (st_u g)))) = some i) ∧ (u_w (st_u g)).length = 6 ∧ x = -4 ∧ M' = (K, I, J, R)) ∨ (∃ i, i < w_pr (b_n (u_b (st_u g))) ∧ pp ≠ -1 ∧ x_nat pp (w_pr (b_n (u_b (st_u g)))) = some i ∧ (u_w (st_u g)).length < 6 ∧ x = nI ((u_w (st_u g)).length + 1) ∧ M' = (K, v_u (v_u (v_u I 73 (u_w (st_u g)).length (nI i)) 76 (u_w (st_u g)).length (v_p (ar = true))) 55 34 (nI ((u_w (st_u g)).length + 1)), J, R))) :
    ZMp K R (n_wish g pp ar).2 (n_wish g pp ar).1 x M' := by
  have hM := h.2.2.1.1
  have h4 := hM.2.2.2.2.1
  have h5 := hM.2.2.2.2.2
  obtain ⟨o1, o2, o3, o4, o5, o6⟩ := hM.2.1
  rcases hp with ⟨c0, rfl, rfl⟩ | ⟨c0, c1, rfl, rfl⟩ | ⟨c0, ⟨i, c1⟩, c2, rfl, rfl⟩ | ⟨i, hi, c0, c1, c2, rfl, rfl⟩
  · simp only [n_wish, if_pos c0] at h ⊢
    have f : ∀ a z, (a = 55 → z ≠ 34) → v_u I 55 34 (nI 0) a z = I a z := fun a z n => by simp only [v_u]; rw [if_neg (by omega)]
    exact ZMp_u h (MVI_w hM (fun a z n _ _ _ _ => f a z (fun q => (n q).1)) ⟨o1, o2, Nat.zero_le _, (fun q hq => absurd hq List.not_mem_nil), o5, o6⟩ ⟨v_u_same, fun j q hq => by cases hq⟩ ⟨(f _ _ (by omega)).trans h5.1, fun j q hq => ⟨(f _ _ (by omega)).trans (h5.2 j q hq).1, (f _ _ (by omega)).trans (h5.2 j q hq).2⟩⟩) (fun a z q => f a z (by unfold m_vu at q; omega))
  · simp only [n_wish, if_neg c0, c1] at h ⊢; exact ZMp_s h
  · simp only [n_wish, if_neg c0, c1, if_pos c2] at h ⊢; exact ZMp_s h
  · simp only [n_wish, if_neg c0, c1, if_neg (Nat.ne_of_lt c2)] at h ⊢
    generalize hl : (u_w (st_u g)).length = L at c2 h ⊢
    have f : ∀ a z, (a = 55 → z ≠ 34) → (a = 73 → z ≠ L) → (a = 76 → z ≠ L) → v_u (v_u (v_u I 73 L (nI i)) 76 L (v_p (ar = true))) 55 34 (nI (L + 1)) a z = I a z := fun a z n1 n2 n3 => by
      simp only [v_u]
      rw [if_neg (by omega), if_neg (by omega), if_neg (by omega)]
    refine ZMp_u h (MVI_w hM (fun a z n n6 _ _ n7 => f a z (fun q => (n q).1) (by omega) (by omega)) ⟨o1, o2, ?_, fun q hq => ?_, o5, o6⟩ ⟨?_, ap_all (fun j q hj hq => ⟨(f 73 j (by omega) (by omega) (by omega)).trans (h4.2 j q hq).1, (f 76 j (by omega) (by omega) (by omega)).trans (h4.2 j q hq).2⟩) ⟨?_, ?_⟩⟩ ⟨(f _ _ (by omega) (by omega) (by omega)).trans h5.1, fun j q hq => ⟨(f _ _ (by omega) (by omega) (by omega)).trans (h5.2 j q hq).1, (f _ _ (by omega) (by omega) (by omega)).trans (h5.2 j q hq).2⟩⟩) (fun a z q => f a z (by unfold m_vu at q; omega) (by unfold m_vu at q; omega) (by unfold m_vu at q; omega))
    · show (u_w (st_u g) ++ [(i, ar)]).length ≤ 6
      rw [List.length_append, hl]; show L + 1 ≤ 6; omega
    · rcases List.mem_append.mp hq with hq | hq
      · exact o4 q hq
      · rw [List.mem_singleton.mp hq]; exact hi
    · rw [List.length_append, hl, v_u_same]; rfl
    · rw [hl, v_u_h (by omega), v_u_h (by omega)]; exact v_u_same
    · rw [hl, v_u_h (by omega)]; exact v_u_same
/-! book -/
def n_book (g : ZS) (pp dd : Int32) : Int32 × ZS := if pp = -1 then (0, z_u g (u_b (st_u g), u_c (st_u g), u_p (st_u g), u_w (st_u g), [])) else match x_nat pp (w_pr (b_n (u_b (st_u g)))), x_nat dd 100 with
  | none, _ => (-1, g)
  | some _, none => (-2, g)
  | some i, some d => if (u_k (st_u g)).length = 12 then (-4, g) else (nI ((u_k (st_u g)).length + 1), z_u g (u_b (st_u g), u_c (st_u g), u_p (st_u g), u_w (st_u g), u_k (st_u g) ++ [(i, d)]))
theorem C_book {pp dd : Int32} (h : ZJ K I J R g)
    (hp : (pp = -1 ∧ x = 0 ∧ M' = (K, v_u I 1 11 (nI 0), J, R)) ∨ (pp ≠ -1 ∧ x_nat pp (w_pr (b_n (u_b (st_u g)))) = none ∧ x = -1 ∧ M' = (K, I, J, R)) ∨ (pp ≠ -1 ∧ (∃ i, x_nat pp (w_pr (b_n (u_b (st_u g)))) = some i) ∧ x_nat dd 100 = none ∧ x = -2 ∧ M' = (K, I, J, R)) ∨ (pp ≠ -1 ∧ (∃ i, x_nat pp (w_pr (b_n (u_b (st_u g)))) = some i) ∧ (∃ d, x_nat dd 100 = some d) ∧ (u_k (st_u g)).length = 12 ∧ x = -4 ∧ M' = (K, I, J, R)) ∨ (∃ i d, i < w_pr (b_n (u_b (st_u g))) ∧ d < 100 ∧ pp ≠ -1 ∧ x_nat pp (w_pr (b_n (u_b (st_u g)))) = some i ∧ x_nat dd 100 = some d ∧ (u_k (st_u g)).length < 12 ∧ x = nI ((u_k (st_u g)).length + 1) ∧ M' = (K, v_u (v_u (v_u I 8 (u_k (st_u g)).length (nI i)) 9 (u_k (st_u g)).length (nI d)) 1 11 (nI ((u_k (st_u g)).length + 1)), J, R))) :
    ZCp K g (n_book g pp dd).2 (n_book g pp dd).1 x M' := by
  have hW := h.2.2.2.1
  rcases hp with ⟨c0, rfl, rfl⟩ | ⟨c0, c1, rfl, rfl⟩ | ⟨c0, ⟨i, c1⟩, c2, rfl, rfl⟩ | ⟨c0, ⟨i, c1⟩, ⟨d, c2⟩, c3, rfl, rfl⟩ | ⟨i, d, hi, hd, c0, c1, c2, c3, rfl, rfl⟩
  · simp only [n_book, if_pos c0]
    obtain ⟨hm, h1, h2, h3, h4, h5⟩ := id hW
    have f : ∀ a z, (a = 1 → z ≠ 11) → v_u I 1 11 (nI 0) a z = I a z := fun a z n => by simp only [v_u]; rw [if_neg (by omega)]
    exact ZCp_u h (ZW_w hW (fun a z n _ _ _ _ => f a z (fun q => (n q).2)) ⟨(f _ _ (by omega)).trans h4.1, fun j q hq => ⟨(f _ _ (by omega)).trans (h4.2 j q hq).1, (f _ _ (by omega)).trans (h4.2 j q hq).2⟩⟩ ⟨v_u_same, fun j q hq => by cases hq⟩) (fun a z q => f a z (by omega))
  · simp only [n_book, if_neg c0, c1]; exact ZCp_s h
  · simp only [n_book, if_neg c0, c1, c2]; exact ZCp_s h
  · simp only [n_book, if_neg c0, c1, c2, if_pos c3]; exact ZCp_s h
  · simp only [n_book, if_neg c0, c1, c2, if_neg (Nat.ne_of_lt c3)]
    obtain ⟨hm, h1, h2, h3, h4, h5⟩ := id hW
    generalize hl : (u_k (st_u g)).length = L at c3 ⊢
    have f : ∀ a z, (a = 1 → z ≠ 11) → (a = 8 → z ≠ L) → (a = 9 → z ≠ L) → v_u (v_u (v_u I 8 L (nI i)) 9 L (nI d)) 1 11 (nI (L + 1)) a z = I a z := fun a z n1 n2 n3 => by
      simp only [v_u]
      rw [if_neg (by omega), if_neg (by omega), if_neg (by omega)]
    refine ZCp_u h (ZW_w hW (fun a z n _ _ n8 n9 => f a z (fun q => (n q).2) (by omega) (by omega)) ⟨(f _ _ (by omega) (by omega) (by omega)).trans h4.1, fun j q hq => ⟨(f _ _ (by omega) (by omega) (by omega)).trans (h4.2 j q hq).1, (f _ _ (by omega) (by omega) (by omega)).trans (h4.2 j q hq).2⟩⟩ ⟨?_, ap_all (fun j q hj hq => ⟨(f 8 j (by omega) (by omega) (by omega)).trans (h5.2 j q hq).1, (f 9 j (by omega) (by omega) (by omega)).trans (h5.2 j q hq).2⟩) ⟨?_, ?_⟩⟩) (fun a z q => f a z (by omega) (by omega) (by omega))
    · rw [List.length_append, hl, v_u_same]; rfl
    · rw [hl, v_u_h (by omega), v_u_h (by omega)]; exact v_u_same
    · rw [hl, v_u_h (by omega)]; exact v_u_same
theorem M_book {pp dd : Int32} (h : ZH K I J R g (n_book g pp dd).2)
    (hp : (pp = -1 ∧ x = 0 ∧ M' = (K, v_u I 55 35 (nI 0), J, R)) ∨ (pp ≠ -1 ∧ x_nat pp (w_pr (b_n (u_b (st_u g)))) = none ∧ x = -1 ∧ M' = (K, I, J, R)) ∨ (pp ≠ -1 ∧ (∃ i, x_nat pp (w_pr (b_n (u_b (st_u g)))) = some i) ∧ x_nat dd 100 = none ∧ x = -2 ∧ M' = (K, I, J, R)) ∨ (pp ≠ -1 ∧ (∃ i, x_nat pp (w_pr (b_n (u_b (st_u g)))) = some i) ∧ (∃ d, x_nat dd 100 = some d) ∧ (u_k (st_u g)).length = 12 ∧ x = -4 ∧ M' = (K, I, J, R)) ∨ (∃ i d, i < w_pr (b_n (u_b (st_u g))) ∧ d < 100 ∧ pp ≠ -1 ∧ x_nat pp (w_pr (b_n (u_b (st_u g)))) = some i ∧ x_nat dd 100 = some d ∧ (u_k (st_u g)).length < 12 ∧ x = nI ((u_k (st_u g)).length + 1) ∧ M' = (K, v_u (v_u (v_u I 74 (u_k (st_u g)).length (nI i)) 75 (u_k (st_u g)).length (nI d)) 55 35 (nI ((u_k (st_u g)).length + 1)), J, R))) :
    ZMp K R (n_book g pp dd).2 (n_book g pp dd).1 x M' := by
  have hM := h.2.2.1.1
  have h4 := hM.2.2.2.2.1
  have h5 := hM.2.2.2.2.2
  obtain ⟨o1, o2, o3, o4, o5, o6⟩ := hM.2.1
  rcases hp with ⟨c0, rfl, rfl⟩ | ⟨c0, c1, rfl, rfl⟩ | ⟨c0, ⟨i, c1⟩, c2, rfl, rfl⟩ | ⟨c0, ⟨i, c1⟩, ⟨d, c2⟩, c3, rfl, rfl⟩ | ⟨i, d, hi, hd, c0, c1, c2, c3, rfl, rfl⟩
  · simp only [n_book, if_pos c0] at h ⊢
    have f : ∀ a z, (a = 55 → z ≠ 35) → v_u I 55 35 (nI 0) a z = I a z := fun a z n => by simp only [v_u]; rw [if_neg (by omega)]
    exact ZMp_u h (MVI_w hM (fun a z n _ _ _ _ => f a z (fun q => (n q).2)) ⟨o1, o2, o3, o4, Nat.zero_le _, fun q hq => absurd hq List.not_mem_nil⟩ ⟨(f _ _ (by omega)).trans h4.1, fun j q hq => ⟨(f _ _ (by omega)).trans (h4.2 j q hq).1, (f _ _ (by omega)).trans (h4.2 j q hq).2⟩⟩ ⟨v_u_same, fun j q hq => by cases hq⟩) (fun a z q => f a z (by unfold m_vu at q; omega))
  · simp only [n_book, if_neg c0, c1] at h ⊢; exact ZMp_s h
  · simp only [n_book, if_neg c0, c1, c2] at h ⊢; exact ZMp_s h
  · simp only [n_book, if_neg c0, c1, c2, if_pos c3] at h ⊢; exact ZMp_s h
  · simp only [n_book, if_neg c0, c1, c2, if_neg (Nat.ne_of_lt c3)] at h ⊢
    generalize hl : (u_k (st_u g)).length = L at c3 h ⊢
    have f : ∀ a z, (a = 55 → z ≠ 35) → (a = 74 → z ≠ L) → (a = 75 → z ≠ L) → v_u (v_u (v_u I 74 L (nI i)) 75 L (nI d)) 55 35 (nI (L + 1)) a z = I a z := fun a z n1 n2 n3 => by
      simp only [v_u]
      rw [if_neg (by omega), if_neg (by omega), if_neg (by omega)]
    refine ZMp_u h (MVI_w hM (fun a z n _ n6 n7 _ => f a z (fun q => (n q).2) (by omega) (by omega)) ⟨o1, o2, o3, o4, ?_, fun q hq => ?_⟩ ⟨(f _ _ (by omega) (by omega) (by omega)).trans h4.1, fun j q hq => ⟨(f _ _ (by omega) (by omega) (by omega)).trans (h4.2 j q hq).1, (f _ _ (by omega) (by omega) (by omega)).trans (h4.2 j q hq).2⟩⟩ ⟨?_, ap_all (fun j q hj hq => ⟨(f 74 j (by omega) (by omega) (by omega)).trans (h5.2 j q hq).1, (f 75 j (by omega) (by omega) (by omega)).trans (h5.2 j q hq).2⟩) ⟨?_, ?_⟩⟩) (fun a z q => f a z (by unfold m_vu at q; omega) (by unfold m_vu at q; omega) (by unfold m_vu at q; omega))
    · show (u_k (st_u g) ++ [(i, d)]).length ≤ 12
      rw [List.length_append, hl]; show L + 1 ≤ 12; omega
    · rcases List.mem_append.mp hq with hq | hq
      · exact o6 q hq
      · rw [List.mem_singleton.mp hq]; exact ⟨hi, hd⟩
    · rw [List.length_append, hl, v_u_same]; rfl
    · rw [hl, v_u_h (by omega), v_u_h (by omega)]; exact v_u_same
    · rw [hl, v_u_h (by omega)]; exact v_u_same
end CALLS
