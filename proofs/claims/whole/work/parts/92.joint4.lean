/-! WHAT A CALL DOES TO THE STATE: friends, row, year, complain, wish, book -/
section CALLS
variable {K : Nat × v_TY} {I : Nat → Nat → Int32} {J : Nat → Nat → Int64} {R : Nat → Nat → Option Nat} {g g' : ZS} {x : Int32} {M' : v_MM}
/-- the village's rows alone have changed -/
theorem ZCp_u {A : Int32} {u : VI} {I' : Nat → Nat → Int32} (h : ZJ K I J R g) (hW : ZW K I' R 1 u) (e : ∀ a z, ¬ (1 ≤ a ∧ a ≤ 9) → I' a z = I a z) : ZCp K g (z_u g u) A A (K, I', J, R) :=
  ⟨rfl, K, I', J, R, rfl, ZH_C h h.1 (Nat.le_refl _) (fun a z l1 l2 => e a z (by omega)) (fun _ => rfl) (ZC_u h.2.2.2 h.2.1 hW e), by omega⟩
def m_vu (a z : Nat) : Prop := (a = 55 ∧ (z = 0 ∨ z = 1 ∨ z = 34 ∨ z = 35)) ∨ a = 56 ∨ a = 57 ∨ a = 58 ∨ a = 59 ∨ a = 60 ∨ a = 73 ∨ a = 74 ∨ a = 75 ∨ a = 76
theorem ZMp_u {A : Int32} {u : VI} {I' : Nat → Nat → Int32} (h : ZH K I J R g (z_u g u)) (hM : MVI I' (st_t g) u) (e : ∀ a z, ¬ m_vu a z → I' a z = I a z) : ZMp K R (z_u g u) A A (K, I', J, R) :=
  ⟨rfl, I', J, rfl, ZH_M h (fun a z q => e a z (by unfold m_vu; omega)) (fun _ _ _ => rfl) (ZR_u h.2.2.1 hM (fun a z q => e a z (by
    rcases q with q | q
    · unfold m_o m_tw at q; unfold m_vu; omega
    · unfold m_x at q; unfold m_vu; omega)))⟩
/-! friends -/
def b_ti (b : BS) (a c : Nat) (ar : Bool) : BS := if (b_m b a).testBit c = ar then b else b_flip b a c
theorem b_ti_e (b : BS) (a c : Nat) (ar : Bool) : b_n (b_ti b a c ar) = b_n b ∧ b_y (b_ti b a c ar) = b_y b ∧ b_k (b_ti b a c ar) = b_k b ∧ b_v (b_ti b a c ar) = b_v b ∧ b_r (b_ti b a c ar) = b_r b := by
  unfold b_ti
  split <;> exact ⟨rfl, rfl, rfl, rfl, rfl⟩
theorem VB_ti {b : BS} (h : VB b) {a c : Nat} {ar : Bool} (ha : a < b_n b) (hc : c < b_n b) (hac : a ≠ c) : VB (b_ti b a c ar) := by
  unfold b_ti
  split
  · exact h
  · exact VB_flip h ha hc hac
def n_friends (g : ZS) (pp qq : Int32) (ar : Bool) : Int32 × ZS := match x_nat pp (b_n (u_b (st_u g))), x_nat qq (b_n (u_b (st_u g))) with
  | some a, some c => if a = c then (-2, g) else (nI (if (b_m (u_b (st_u g)) a).testBit c = true then 1 else 0), z_u g (b_ti (u_b (st_u g)) a c ar, (st_u g).2))
  | _, _ => (-1, g)
theorem n_friends_1 {pp qq : Int32} {ar : Bool} (h : x_nat pp (b_n (u_b (st_u g))) = none ∨ x_nat qq (b_n (u_b (st_u g))) = none) : n_friends g pp qq ar = (-1, g) := by
  unfold n_friends
  split
  · rename_i h1 h2
    rcases h with h | h
    · rw [h1] at h; cases h
    · rw [h2] at h; cases h
  · rfl
theorem OV_ti {u : VI} (h : OV u) {a c : Nat} {ar : Bool} : OV (b_ti (u_b u) a c ar, u.2) := by
  obtain ⟨e1, e2, e3, e4, e5⟩ := b_ti_e (u_b u) a c ar
  exact OV_b h ⟨e1, e3, e4⟩ (fun j hj => by rw [e5]; exact h.1.2.1 j hj) (by rw [e2]; exact h.2.1)
theorem C_friends {pp qq : Int32} {ar : Bool} (h : ZJ K I J R g)
    (hp : ((x_nat pp (b_n (u_b (st_u g))) = none ∨ x_nat qq (b_n (u_b (st_u g))) = none) ∧ x = -1 ∧ M' = (K, I, J, R)) ∨ ((∃ a, x_nat pp (b_n (u_b (st_u g))) = some a ∧ x_nat qq (b_n (u_b (st_u g))) = some a) ∧ x = -2 ∧ M' = (K, I, J, R)) ∨ (∃ a c, a < b_n (u_b (st_u g)) ∧ c < b_n (u_b (st_u g)) ∧ a ≠ c ∧ x_nat pp (b_n (u_b (st_u g))) = some a ∧ x_nat qq (b_n (u_b (st_u g))) = some c ∧ x = nI (if (b_m (u_b (st_u g)) a).testBit c = true then 1 else 0) ∧ ∃ I', M' = (K, I', J, R) ∧ cK 1 I I' (if (b_m (u_b (st_u g)) a).testBit c = ar then (u_b (st_u g)) else b_flip (u_b (st_u g)) a c))) :
    ZCp K g (n_friends g pp qq ar).2 (n_friends g pp qq ar).1 x M' := by
  rcases hp with ⟨c1, rfl, rfl⟩ | ⟨⟨a, c1, c2⟩, rfl, rfl⟩ | ⟨a, c, ha, hc, hac, c1, c2, rfl, I', rfl, j⟩
  · rw [n_friends_1 c1]; exact ZCp_s h
  · simp only [n_friends, c1, c2, if_pos]; exact ZCp_s h
  · simp only [n_friends, c1, c2, if_neg hac]
    have hB := h.2.2.1.1.1.1.2.1
    have j : cK 1 I I' (b_ti (u_b (st_u g)) a c ar) := j
    exact ZCp_u h (ZW_b h.2.2.2.1 (fun hm hv => CV_K hv (Or.inl rfl) j (b_ti_e _ _ _ _) (VB_ti hB ha hc hac)) (b_ti_e _ _ _ _).1 (fun a z q => j.1 a z (by omega))) (fun a z q => j.1 a z (by omega))
theorem M_friends {pp qq : Int32} {ar : Bool} (h : ZH K I J R g (n_friends g pp qq ar).2)
    (hp : ((x_nat pp (b_n (u_b (st_u g))) = none ∨ x_nat qq (b_n (u_b (st_u g))) = none) ∧ x = -1 ∧ M' = (K, I, J, R)) ∨ ((∃ a, x_nat pp (b_n (u_b (st_u g))) = some a ∧ x_nat qq (b_n (u_b (st_u g))) = some a) ∧ x = -2 ∧ M' = (K, I, J, R)) ∨ (∃ a c, a < b_n (u_b (st_u g)) ∧ c < b_n (u_b (st_u g)) ∧ a ≠ c ∧ x_nat pp (b_n (u_b (st_u g))) = some a ∧ x_nat qq (b_n (u_b (st_u g))) = some c ∧ x = nI (if (b_m (u_b (st_u g)) a).testBit c = true then 1 else 0) ∧ ∃ I', M' = (K, I', J, R) ∧ (((b_m (u_b (st_u g)) a).testBit c = ar ∧ I' = I) ∨ ((b_m (u_b (st_u g)) a).testBit c ≠ ar ∧ mK I I' (b_flip (u_b (st_u g)) a c))))) :
    ZMp K R (n_friends g pp qq ar).2 (n_friends g pp qq ar).1 x M' := by
  rcases hp with ⟨c1, rfl, rfl⟩ | ⟨⟨a, c1, c2⟩, rfl, rfl⟩ | ⟨a, c, ha, hc, hac, c1, c2, rfl, I', rfl, j⟩
  · rw [n_friends_1 c1] at h ⊢; exact ZMp_s h
  · simp only [n_friends, c1, c2, if_pos] at h ⊢; exact ZMp_s h
  · simp only [n_friends, c1, c2, if_neg hac] at h ⊢
    have hM := h.2.2.1.1
    have hB := hM.1.1.2.1
    rcases j with ⟨j, rfl⟩ | ⟨j, k⟩
    · have e : b_ti (u_b (st_u g)) a c ar = u_b (st_u g) := if_pos j
      rw [e] at h ⊢
      exact ZMp_u h hM (fun _ _ _ => rfl)
    · have e : b_ti (u_b (st_u g)) a c ar = b_flip (u_b (st_u g)) a c := if_neg j
      have hO := OV_ti hM.2.1 (a := a) (c := c) (ar := ar)
      rw [e] at h hO ⊢
      exact ZMp_u h (MVI_b hM (MW_K hM.1 k ⟨rfl, rfl, rfl, rfl, rfl⟩ (VB_flip hB ha hc hac)) hO (fun a z q => k.1 a z (by omega))) (fun a z q => k.1 a z (by unfold m_vu at q; omega))
/-! row -/
def b_rw (b : BS) (q d : Nat) : BS := (b_n b, b_y b, b_k b, b_v b, b_m b, fun z => if z = q then d else b_r b z)
theorem VB_rw {b : BS} (h : VB b) {q d : Nat} (hd : d < 4) : VB (b_rw b q d) := ⟨h.1, h.2.1, h.2.2.1, h.2.2.2.1, h.2.2.2.2.1, fun j => by
  show (if j = q then d else b_r b j) ≤ 3
  split
  · omega
  · exact h.2.2.2.2.2.1 j, h.2.2.2.2.2.2⟩
def n_row (g : ZS) (pp jj dd : Int32) : Int32 × ZS := match x_nat pp (b_n (u_b (st_u g))), x_nat jj 4 with
  | some i, some j => match x_nat dd 4 with
    | none => (-2, g)
    | some d => if b_k (u_b (st_u g)) i = 6 then (nI (b_r (u_b (st_u g)) (4 * i + j)), z_u g (b_rw (u_b (st_u g)) (4 * i + j) d, (st_u g).2)) else (-3, g)
  | _, _ => (-1, g)
theorem n_row_1 {pp jj dd : Int32} (h : x_nat pp (b_n (u_b (st_u g))) = none ∨ x_nat jj 4 = none) : n_row g pp jj dd = (-1, g) := by
  unfold n_row
  split
  · rename_i h1 h2
    rcases h with h | h
    · rw [h1] at h; cases h
    · rw [h2] at h; cases h
  · rfl
theorem OV_rw {u : VI} (h : OV u) {q d : Nat} (hq : q < 4 * b_n (u_b u)) : OV (b_rw (u_b u) q d, u.2) :=
  OV_b h ⟨rfl, rfl, rfl⟩ (fun j hj => (if_neg (by omega)).trans (h.1.2.1 j hj)) h.2.1
theorem C_row {pp jj dd : Int32} (h : ZJ K I J R g)
    (hp : ((x_nat pp (b_n (u_b (st_u g))) = none ∨ x_nat jj 4 = none) ∧ x = -1 ∧ M' = (K, I, J, R)) ∨ ((∃ i, x_nat pp (b_n (u_b (st_u g))) = some i) ∧ (∃ i, x_nat jj 4 = some i) ∧ x_nat dd 4 = none ∧ x = -2 ∧ M' = (K, I, J, R)) ∨ ((∃ i, x_nat pp (b_n (u_b (st_u g))) = some i ∧ b_k (u_b (st_u g)) i ≠ 6) ∧ (∃ i, x_nat jj 4 = some i) ∧ (∃ i, x_nat dd 4 = some i) ∧ x = -3 ∧ M' = (K, I, J, R)) ∨ (∃ i j d, i < b_n (u_b (st_u g)) ∧ j < 4 ∧ d < 4 ∧ x_nat pp (b_n (u_b (st_u g))) = some i ∧ x_nat jj 4 = some j ∧ x_nat dd 4 = some d ∧ b_k (u_b (st_u g)) i = 6 ∧ x = nI (b_r (u_b (st_u g)) (4 * i + j)) ∧ M' = (K, v_u I 4 (4 * i + j) (nI d), J, R))) :
    ZCp K g (n_row g pp jj dd).2 (n_row g pp jj dd).1 x M' := by
  rcases hp with ⟨c1, rfl, rfl⟩ | ⟨⟨i, c1⟩, ⟨j, c2⟩, c3, rfl, rfl⟩ | ⟨⟨i, c1, c4⟩, ⟨j, c2⟩, ⟨d, c3⟩, rfl, rfl⟩ | ⟨i, j, d, hi, hj, hd, c1, c2, c3, c4, rfl, rfl⟩
  · rw [n_row_1 c1]; exact ZCp_s h
  · simp only [n_row, c1, c2, c3]; exact ZCp_s h
  · simp only [n_row, c1, c2, c3, if_neg c4]; exact ZCp_s h
  · simp only [n_row, c1, c2, c3, if_pos c4]
    have hB := h.2.2.1.1.1.1.2.1
    have f : ∀ a z, a ≠ 4 → v_u I 4 (4 * i + j) (nI d) a z = I a z := fun a z n => v_u_h n
    refine ZCp_u h (ZW_b h.2.2.2.1 (fun hm hv => CV_n hv (Or.inl rfl) ⟨(f _ _ (by omega)).trans hv.1.1, (f _ _ (by omega)).trans hv.1.2.1, (f _ _ (by omega)).trans hv.1.2.2.1, fun q hq => (f _ _ (by omega)).trans (hv.1.2.2.2.1 q hq), fun q hq => ?_⟩ (VB_rw hB hd) ⟨rfl, rfl, rfl⟩ (fun a z q => f a z (by omega))) rfl (fun a z q => f a z (by omega))) (fun a z q => f a z (by omega))
    show v_u I 4 (4 * i + j) (nI d) 4 q = nI (if q = 4 * i + j then d else b_r (u_b (st_u g)) q)
    by_cases e : q = 4 * i + j
    · subst e; rw [v_u_same, if_pos rfl]
    · rw [v_u_k e, if_neg e]; exact hv.1.2.2.2.2 q hq
theorem M_row {pp jj dd : Int32} (h : ZH K I J R g (n_row g pp jj dd).2)
    (hp : ((x_nat pp (b_n (u_b (st_u g))) = none ∨ x_nat jj 4 = none) ∧ x = -1 ∧ M' = (K, I, J, R)) ∨ ((∃ i, x_nat pp (b_n (u_b (st_u g))) = some i) ∧ (∃ i, x_nat jj 4 = some i) ∧ x_nat dd 4 = none ∧ x = -2 ∧ M' = (K, I, J, R)) ∨ ((∃ i, x_nat pp (b_n (u_b (st_u g))) = some i ∧ b_k (u_b (st_u g)) i ≠ 6) ∧ (∃ i, x_nat jj 4 = some i) ∧ (∃ i, x_nat dd 4 = some i) ∧ x = -3 ∧ M' = (K, I, J, R)) ∨ (∃ i j d, i < b_n (u_b (st_u g)) ∧ j < 4 ∧ d < 4 ∧ x_nat pp (b_n (u_b (st_u g))) = some i ∧ x_nat jj 4 = some j ∧ x_nat dd 4 = some d ∧ b_k (u_b (st_u g)) i = 6 ∧ x = nI (b_r (u_b (st_u g)) (4 * i + j)) ∧ M' = (K, v_u I 59 (4 * i + j) (nI d), J, R))) :
    ZMp K R (n_row g pp jj dd).2 (n_row g pp jj dd).1 x M' := by
  rcases hp with ⟨c1, rfl, rfl⟩ | ⟨⟨i, c1⟩, ⟨j, c2⟩, c3, rfl, rfl⟩ | ⟨⟨i, c1, c4⟩, ⟨j, c2⟩, ⟨d, c3⟩, rfl, rfl⟩ | ⟨i, j, d, hi, hj, hd, c1, c2, c3, c4, rfl, rfl⟩
  · rw [n_row_1 c1] at h ⊢; exact ZMp_s h
  · simp only [n_row, c1, c2, c3] at h ⊢; exact ZMp_s h
  · simp only [n_row, c1, c2, c3, if_neg c4] at h ⊢; exact ZMp_s h
  · simp only [n_row, c1, c2, c3, if_pos c4] at h ⊢
    have hM := h.2.2.1.1
    have hV := hM.1.1
    have f : ∀ a z, a ≠ 59 → v_u I 59 (4 * i + j) (nI d) a z = I a z := fun a z n => v_u_h n
    refine ZMp_u h (MVI_b hM ⟨⟨⟨(f _ _ (by omega)).trans hV.1.1, (f _ _ (by omega)).trans hV.1.2.1, fun q hq => (f _ _ (by omega)).trans (hV.1.2.2.1 q hq), fun q hq => (f _ _ (by omega)).trans (hV.1.2.2.2.1 q hq), fun q hq => (f _ _ (by omega)).trans (hV.1.2.2.2.2.1 q hq), fun q hq => ?_⟩, VB_rw hV.2.1 hd, ?_⟩, MP_e hM.1.2 (fun a z q => f a z (by omega))⟩ (OV_rw hM.2.1 (by omega)) (fun a z q => f a z (by omega))) (fun a z q => f a z (by unfold m_vu at q; omega))
    · show v_u I 59 (4 * i + j) (nI d) 59 q = nI (if q = 4 * i + j then d else b_r (u_b (st_u g)) q)
      by_cases e : q = 4 * i + j
      · subst e; rw [v_u_same, if_pos rfl]
      · rw [v_u_k e, if_neg e]; exact hV.1.2.2.2.2.2 q hq
    · unfold MG
      rw [f 55 2 (by omega)]
      exact hV.2.2
/-! year -/
def n_year (g : ZS) : Int32 × ZS := if b_y (u_b (st_u g)) = 999 then (-3, g) else (nI (b_y (u_b (st_u g)) + 1), z_u g (b_yr (u_b (st_u g)) (b_y (u_b (st_u g)) + 1), (st_u g).2))
theorem C_year (h : ZJ K I J R g) (hp : (b_y (u_b (st_u g)) = 999 ∧ x = -3 ∧ M' = (K, I, J, R)) ∨ (b_y (u_b (st_u g)) < 999 ∧ x = nI (b_y (u_b (st_u g)) + 1) ∧ M' = (K, v_u I 1 2 (nI (b_y (u_b (st_u g)) + 1)), J, R))) :
    ZCp K g (n_year g).2 (n_year g).1 x M' := by
  rcases hp with ⟨c1, rfl, rfl⟩ | ⟨c1, rfl, rfl⟩
  · simp only [n_year, if_pos c1]; exact ZCp_s h
  · simp only [n_year, if_neg (Nat.ne_of_lt c1)]
    exact ZCp_u h (ZW_b h.2.2.2.1 (fun hm hv => CV_y hv (Or.inl rfl) (by omega)) rfl (fun a z q => by simp only [v_u]; rw [if_neg (by omega)])) (fun a z q => v_u_h (by omega))
theorem M_year (h : ZH K I J R g (n_year g).2) (hp : (b_y (u_b (st_u g)) = 999 ∧ x = -3 ∧ M' = (K, I, J, R)) ∨ (b_y (u_b (st_u g)) < 999 ∧ x = nI (b_y (u_b (st_u g)) + 1) ∧ M' = (K, v_u I 55 1 (nI (b_y (u_b (st_u g)) + 1)), J, R))) :
    ZMp K R (n_year g).2 (n_year g).1 x M' := by
  rcases hp with ⟨c1, rfl, rfl⟩ | ⟨c1, rfl, rfl⟩
  · simp only [n_year, if_pos c1] at h ⊢; exact ZMp_s h
  · simp only [n_year, if_neg (Nat.ne_of_lt c1)] at h ⊢
    have hM := h.2.2.1.1
    have f : ∀ a z, (a = 55 → z ≠ 1) → v_u I 55 1 (nI (b_y (u_b (st_u g)) + 1)) a z = I a z := fun a z n => by simp only [v_u]; rw [if_neg (by omega)]
    exact ZMp_u h (MVI_b hM (MW_y hM.1 (by omega)) (OV_b hM.2.1 ⟨rfl, rfl, rfl⟩ hM.2.1.1.2.1 (by show b_y (u_b (st_u g)) + 1 ≤ 999; omega)) (fun a z q => f a z (by omega))) (fun a z q => f a z (by unfold m_vu at q; omega))
/-! complain -/
def c_set (c : Nat → Nat) (i d : Nat) : Nat → Nat := fun z => if z = i then d else c z
def n_complain (g : ZS) (pp dd : Int32) : Int32 × ZS := match x_nat pp (b_n (u_b (st_u g))), x_nat dd 6 with
  | none, _ => (-1, g)
  | some _, none => (-2, g)
  | some i, some d => (nI (u_c (st_u g) i), z_u g (u_b (st_u g), c_set (u_c (st_u g)) i d, (st_u g).2.2))
theorem C_complain {pp dd : Int32} (h : ZJ K I J R g) (hp : (x_nat pp (b_n (u_b (st_u g))) = none ∧ x = -1 ∧ M' = (K, I, J, R)) ∨ ((∃ i, x_nat pp (b_n (u_b (st_u g))) = some i) ∧ x_nat dd 6 = none ∧ x = -2 ∧ M' = (K, I, J, R)) ∨ (∃ i d, i < b_n (u_b (st_u g)) ∧ d < 6 ∧ x_nat pp (b_n (u_b (st_u g))) = some i ∧ x_nat dd 6 = some d ∧ x = nI (u_c (st_u g) i) ∧ M' = (K, v_u I 5 i (nI d), J, R))) :
    ZCp K g (n_complain g pp dd).2 (n_complain g pp dd).1 x M' := by
  rcases hp with ⟨c1, rfl, rfl⟩ | ⟨⟨i, c1⟩, c2, rfl, rfl⟩ | ⟨i, d, hi, hd, c1, c2, rfl, rfl⟩
  · simp only [n_complain, c1]; exact ZCp_s h
  · simp only [n_complain, c1, c2]; exact ZCp_s h
  · simp only [n_complain, c1, c2]
    obtain ⟨hm, h1, h2, h3, h4, h5⟩ := h.2.2.2.1
    have hB := h1.2.1
    have f : ∀ a z, a ≠ 5 → v_u I 5 i (nI d) a z = I a z := fun a z n => v_u_h n
    refine ZCp_u h ⟨hm, CV_n h1 (Or.inl rfl) ⟨(f _ _ (by omega)).trans h1.1.1, (f _ _ (by omega)).trans h1.1.2.1, (f _ _ (by omega)).trans h1.1.2.2.1, fun q hq => (f _ _ (by omega)).trans (h1.1.2.2.2.1 q hq), fun q hq => (f _ _ (by omega)).trans (h1.1.2.2.2.2 q hq)⟩ hB ⟨rfl, rfl, rfl⟩ (fun a z q => f a z (by omega)), h2, fun q hq => ?_, ⟨(f _ _ (by omega)).trans h4.1, fun q w hq => ⟨(f _ _ (by omega)).trans (h4.2 q w hq).1, (f _ _ (by omega)).trans (h4.2 q w hq).2⟩⟩, ⟨(f _ _ (by omega)).trans h5.1, fun q w hq => ⟨(f _ _ (by omega)).trans (h5.2 q w hq).1, (f _ _ (by omega)).trans (h5.2 q w hq).2⟩⟩⟩ (fun a z q => f a z (by omega))
    show v_u I 5 i (nI d) 5 q = nI (if q = i then d else u_c (st_u g) q)
    by_cases e : q = i
    · subst e; rw [v_u_same, if_pos rfl]
    · rw [v_u_k e, if_neg e]; exact h3 q hq
theorem M_complain {pp dd : Int32} (h : ZH K I J R g (n_complain g pp dd).2) (hp : (x_nat pp (b_n (u_b (st_u g))) = none ∧ x = -1 ∧ M' = (K, I, J, R)) ∨ ((∃ i, x_nat pp (b_n (u_b (st_u g))) = some i) ∧ x_nat dd 6 = none ∧ x = -2 ∧ M' = (K, I, J, R)) ∨ (∃ i d, i < b_n (u_b (st_u g)) ∧ d < 6 ∧ x_nat pp (b_n (u_b (st_u g))) = some i ∧ x_nat dd 6 = some d ∧ x = nI (u_c (st_u g) i) ∧ M' = (K, v_u I 60 i (nI d), J, R))) :
    ZMp K R (n_complain g pp dd).2 (n_complain g pp dd).1 x M' := by
  rcases hp with ⟨c1, rfl, rfl⟩ | ⟨⟨i, c1⟩, c2, rfl, rfl⟩ | ⟨i, d, hi, hd, c1, c2, rfl, rfl⟩
  · simp only [n_complain, c1] at h ⊢; exact ZMp_s h
  · simp only [n_complain, c1, c2] at h ⊢; exact ZMp_s h
  · simp only [n_complain, c1, c2] at h ⊢
    obtain ⟨hW, ⟨⟨v1, v2, v3⟩, hO⟩, hc, ht, hw, hk⟩ := h.2.2.1.1
    have hV := hW.1
    have f : ∀ a z, a ≠ 60 → v_u I 60 i (nI d) a z = I a z := fun a z n => v_u_h n
    refine ZMp_u h ⟨⟨⟨⟨(f _ _ (by omega)).trans hV.1.1, (f _ _ (by omega)).trans hV.1.2.1, fun q hq => (f _ _ (by omega)).trans (hV.1.2.2.1 q hq), fun q hq => (f _ _ (by omega)).trans (hV.1.2.2.2.1 q hq), fun q hq => (f _ _ (by omega)).trans (hV.1.2.2.2.2.1 q hq), fun q hq => (f _ _ (by omega)).trans (hV.1.2.2.2.2.2 q hq)⟩, hV.2.1, ?_⟩, MP_e hW.2 (fun a z q => f a z (by omega))⟩, ⟨⟨fun q hq => ⟨(v1 q hq).1, (v1 q hq).2.1, ?_⟩, v2, fun q => ?_⟩, hO⟩, fun q hq => ?_, ?_, ⟨(f _ _ (by omega)).trans hw.1, fun q w hq => ⟨(f _ _ (by omega)).trans (hw.2 q w hq).1, (f _ _ (by omega)).trans (hw.2 q w hq).2⟩⟩, ⟨(f _ _ (by omega)).trans hk.1, fun q w hq => ⟨(f _ _ (by omega)).trans (hk.2 q w hq).1, (f _ _ (by omega)).trans (hk.2 q w hq).2⟩⟩⟩ (fun a z q => f a z (by unfold m_vu at q; omega))
    · unfold MG
      rw [f 55 2 (by omega)]
      exact hV.2.2
    · show (if q = i then d else u_c (st_u g) q) = 0
      have hq : b_n (u_b (st_u g)) ≤ q := hq
      rw [if_neg (by omega)]
      exact (v1 q hq).2.2
    · show (if q = i then d else u_c (st_u g) q) ≤ 5
      split
      · omega
      · exact v3 q
    · show v_u I 60 i (nI d) 60 q = nI (if q = i then d else u_c (st_u g) q)
      by_cases e : q = i
      · subst e; rw [v_u_same, if_pos rfl]
      · rw [v_u_k e, if_neg e]; exact hc q hq
    · rw [f 55 9 (by omega)]; exact ht
end CALLS
