/-! THE STATE that both keep; what of the REFERENCE's memory speaks of it -/
abbrev ZS : Type := VI × Option VI × Nat × List Nat × (Nat → TP) × List Nat
abbrev st_u (g : ZS) : VI := g.1
abbrev st_o (g : ZS) : Option VI := g.2.1
abbrev st_t (g : ZS) : Nat := g.2.2.1
abbrev st_x (g : ZS) : List Nat := g.2.2.2.1
abbrev st_p (g : ZS) : Nat → TP := g.2.2.2.2.1
abbrev st_r (g : ZS) : List Nat := g.2.2.2.2.2
/-- the towns' cells, of the first t -/
def m_tw (t a z : Nat) : Prop := (a = 62 ∧ z < t) ∨ ((a = 63 ∨ a = 64 ∨ a = 65 ∨ a = 66) ∧ z < 10 * t) ∨ (a = 67 ∧ z < 100 * t)
/-- what MVI reads, of t towns and w wishes -/
def m_v (t w a z : Nat) : Prop := (a = 55 ∧ (z = 0 ∨ z = 1 ∨ z = 2 ∨ z = 9 ∨ z = 34 ∨ z = 35)) ∨ ((a = 56 ∨ a = 57 ∨ a = 58 ∨ a = 60) ∧ z < 7) ∨ (a = 59 ∧ z < 28) ∨ ((a = 73 ∨ a = 76) ∧ z < w) ∨ ((a = 74 ∨ a = 75) ∧ z < 12) ∨ m_tw t a z
theorem MVI_c {I I' : Nat → Nat → Int32} {t : Nat} {u : VI} (h : MVI I t u) (h6 : t ≤ 6) (e : ∀ a z, m_v t (u_w u).length a z → I' a z = I a z) : MVI I' t u := by
  obtain ⟨⟨⟨⟨b0, b1, b2, b3, b4, b5⟩, hv, hg⟩, hp⟩, ho, hc, ht, hw, hk⟩ := h
  have f : ∀ z, (z = 0 ∨ z = 1 ∨ z = 2 ∨ z = 9 ∨ z = 34 ∨ z = 35) → I' 55 z = I 55 z := fun z hz => e 55 z (Or.inl ⟨rfl, hz⟩)
  have f7 : ∀ a z, (a = 56 ∨ a = 57 ∨ a = 58 ∨ a = 60) → z < 7 → I' a z = I a z := fun a z ha hz => e a z (Or.inr (Or.inl ⟨ha, hz⟩))
  have fw : ∀ a z, (a = 73 ∨ a = 76) → z < (u_w u).length → I' a z = I a z := fun a z ha hz => e a z (Or.inr (Or.inr (Or.inr (Or.inl ⟨ha, hz⟩))))
  have fb : ∀ a z, (a = 74 ∨ a = 75) → z < 12 → I' a z = I a z := fun a z ha hz => e a z (Or.inr (Or.inr (Or.inr (Or.inr (Or.inl ⟨ha, hz⟩)))))
  have ft : ∀ a z, m_tw t a z → I' a z = I a z := fun a z q => e a z (Or.inr (Or.inr (Or.inr (Or.inr (Or.inr q)))))
  have f9 := f 9 (by decide)
  refine ⟨⟨⟨⟨(f 0 (by decide)).trans b0, (f 1 (by decide)).trans b1, fun i hi => (f7 56 i (by decide) hi).trans (b2 i hi), fun i hi => (f7 57 i (by decide) hi).trans (b3 i hi), fun i hi => (f7 58 i (by decide) hi).trans (b4 i hi), fun j hj => (e 59 j (Or.inr (Or.inr (Or.inl ⟨rfl, hj⟩)))).trans (b5 j hj)⟩, hv, ?_⟩, ?_⟩, ho, fun i hi => (f7 60 i (by decide) hi).trans (hc i hi), ?_, ?_, ?_⟩
  · unfold MG
    rw [f 2 (by decide)]
    exact hg
  · unfold MP
    rw [f9]
    refine hp.elim Or.inl (fun ⟨q, q1, q2, q3, q4, q5⟩ => Or.inr ⟨q, q1, ?_⟩)
    have hq : q < t := by
      rcases ht with z | ⟨t', z1, z2⟩
      · rw [q1] at z
        exact absurd z (by
          rcases (show q = 0 ∨ q = 1 ∨ q = 2 ∨ q = 3 ∨ q = 4 ∨ q = 5 by omega) with rfl | rfl | rfl | rfl | rfl | rfl <;> decide)
      · have := (nI_eq (by omega) (by omega)).mp (q1.symm.trans z2)
        omega
    refine ⟨q2, q3, (ft 62 q (Or.inl ⟨rfl, hq⟩)).trans q4, fun c x hcx => ?_⟩
    obtain ⟨r1, r2, s, r3, r4, r5, r6⟩ := q5 c x hcx
    have hcl : c < (u_p u).length := (List.getElem?_eq_some_iff.mp hcx).1
    have h10 := q3.1
    have g : ∀ a, (a = 63 ∨ a = 64 ∨ a = 65 ∨ a = 66) → I' a (10 * q + c) = I a (10 * q + c) := fun a ha => ft a _ (Or.inr (Or.inl ⟨ha, by omega⟩))
    refine ⟨(g 63 (by decide)).trans r1, (g 64 (by decide)).trans r2, s, (g 65 (by decide)).trans r3, (g 66 (by decide)).trans r4, r5, fun j k hjk => ?_⟩
    have hj : j < x.2.2.length := (List.getElem?_eq_some_iff.mp hjk).1
    exact (ft 67 (s + j) (Or.inr (Or.inr ⟨rfl, by omega⟩))).trans (r6 j k hjk)
  · rw [f9]
    exact ht
  · exact ⟨(f 34 (by decide)).trans hw.1, fun j q hq => ⟨(fw 73 j (by decide) (List.getElem?_eq_some_iff.mp hq).1).trans (hw.2 j q hq).1, (fw 76 j (by decide) (List.getElem?_eq_some_iff.mp hq).1).trans (hw.2 j q hq).2⟩⟩
  · have hl : ∀ j q, (u_k u)[j]? = some q → j < 12 := fun j q hq => Nat.lt_of_lt_of_le (List.getElem?_eq_some_iff.mp hq).1 ho.2.2.2.2.1
    exact ⟨(f 35 (by decide)).trans hk.1, fun j q hq => ⟨(fb 74 j (by decide) (hl j q hq)).trans (hk.2 j q hq).1, (fb 75 j (by decide) (hl j q hq)).trans (hk.2 j q hq).2⟩⟩
theorem MVI_t {I : Nat → Nat → Int32} {t t' : Nat} {u : VI} (h : MVI I t u) (l : t ≤ t') : MVI I t' u :=
  ⟨h.1, h.2.1, h.2.2.1, h.2.2.2.1.elim Or.inl (fun ⟨q, q1, q2⟩ => Or.inr ⟨q, Nat.lt_of_lt_of_le q1 l, q2⟩), h.2.2.2.2⟩
/-! the image's cells -/
section UNS
variable {I : Nat → Nat → Int32} {z : Nat}
theorem un_0 : w_un I 55 0 = I 55 42 := by simp [w_un, v_to, v_u]
theorem un_1 : w_un I 55 1 = I 55 43 := by simp [w_un, v_to, v_u]
theorem un_9 : w_un I 55 9 = I 55 41 := by simp [w_un, v_to, v_u]
theorem un_34 : w_un I 55 34 = I 55 44 := by simp [w_un, v_to, v_u]
theorem un_35 : w_un I 55 35 = I 55 45 := by simp [w_un, v_to, v_u]
theorem un_f (n : z ≠ 0 ∧ z ≠ 1 ∧ z ≠ 9 ∧ z ≠ 34 ∧ z ≠ 35) : w_un I 55 z = I 55 z := by simp [w_un, v_to, v_u, n.1, n.2.1, n.2.2.1, n.2.2.2.1, n.2.2.2.2]
theorem un_56 (h : z < 7) : w_un I 56 z = I 77 z := by simp [w_un, v_to, v_u, h]
theorem un_57 (h : z < 7) : w_un I 57 z = I 78 z := by simp [w_un, v_to, v_u, h]
theorem un_58 (h : z < 7) : w_un I 58 z = I 79 z := by simp [w_un, v_to, v_u, h]
theorem un_60 (h : z < 7) : w_un I 60 z = I 81 z := by simp [w_un, v_to, v_u, h]
theorem un_59 (h : z < 28) : w_un I 59 z = I 80 z := by simp [w_un, v_to, v_u, h]
theorem un_73 (h : z < 6) : w_un I 73 z = I 82 z := by simp [w_un, v_to, v_u, h]
theorem un_76 (h : z < 6) : w_un I 76 z = vp_nar .boolean (I 85 z) := by simp [w_un, v_to, v_u, h]
theorem un_74 (h : z < 12) : w_un I 74 z = I 83 z := by simp [w_un, v_to, v_u, h]
theorem un_75 (h : z < 12) : w_un I 75 z = I 84 z := by simp [w_un, v_to, v_u, h]
theorem un_o {a : Nat} (n : a < 55 ∨ (60 < a ∧ a < 73) ∨ 76 < a) : w_un I a z = I a z := by
  have n1 : a ≠ 55 := by omega
  have n2 : a ≠ 56 := by omega
  have n3 : a ≠ 57 := by omega
  have n4 : a ≠ 58 := by omega
  have n5 : a ≠ 59 := by omega
  have n6 : a ≠ 60 := by omega
  have n7 : a ≠ 73 := by omega
  have n8 : a ≠ 74 := by omega
  have n9 : a ≠ 75 := by omega
  have n10 : a ≠ 76 := by omega
  simp [w_un, v_to, v_u, n1, n2, n3, n4, n5, n6, n7, n8, n9, n10]
theorem im_40 : w_im I 55 40 = nI 1 := by simp [w_im, v_to, v_u]
theorem im_41 : w_im I 55 41 = I 55 9 := by simp [w_im, v_to, v_u]
theorem im_42 : w_im I 55 42 = I 55 0 := by simp [w_im, v_to, v_u]
theorem im_43 : w_im I 55 43 = I 55 1 := by simp [w_im, v_to, v_u]
theorem im_44 : w_im I 55 44 = I 55 34 := by simp [w_im, v_to, v_u]
theorem im_45 : w_im I 55 45 = I 55 35 := by simp [w_im, v_to, v_u]
theorem im_f (n : z < 40 ∨ 45 < z) : w_im I 55 z = I 55 z := by
  have n1 : z ≠ 40 := by omega
  have n2 : z ≠ 41 := by omega
  have n3 : z ≠ 42 := by omega
  have n4 : z ≠ 43 := by omega
  have n5 : z ≠ 44 := by omega
  have n6 : z ≠ 45 := by omega
  simp [w_im, v_to, v_u, n1, n2, n3, n4, n5, n6]
theorem im_77 (h : z < 7) : w_im I 77 z = I 56 z := by simp [w_im, v_to, v_u, h]
theorem im_78 (h : z < 7) : w_im I 78 z = I 57 z := by simp [w_im, v_to, v_u, h]
theorem im_79 (h : z < 7) : w_im I 79 z = I 58 z := by simp [w_im, v_to, v_u, h]
theorem im_81 (h : z < 7) : w_im I 81 z = I 60 z := by simp [w_im, v_to, v_u, h]
theorem im_80 (h : z < 28) : w_im I 80 z = I 59 z := by simp [w_im, v_to, v_u, h]
theorem im_82 (h : z < 6) : w_im I 82 z = I 73 z := by simp [w_im, v_to, v_u, h]
theorem im_85 (h : z < 6) : w_im I 85 z = vp_nar .boolean (I 76 z) := by simp [w_im, v_to, v_u, h]
theorem im_83 (h : z < 12) : w_im I 83 z = I 74 z := by simp [w_im, v_to, v_u, h]
theorem im_84 (h : z < 12) : w_im I 84 z = I 75 z := by simp [w_im, v_to, v_u, h]
theorem im_o {a : Nat} (n : a < 55 ∨ (55 < a ∧ a < 77) ∨ 85 < a) : w_im I a z = I a z := by
  have n0 : a ≠ 55 := by omega
  have n1 : a ≠ 77 := by omega
  have n2 : a ≠ 78 := by omega
  have n3 : a ≠ 79 := by omega
  have n4 : a ≠ 80 := by omega
  have n5 : a ≠ 81 := by omega
  have n6 : a ≠ 82 := by omega
  have n7 : a ≠ 83 := by omega
  have n8 : a ≠ 84 := by omega
  have n9 : a ≠ 85 := by omega
  simp [w_im, v_to, v_u, n0, n1, n2, n3, n4, n5, n6, n7, n8, n9]
end UNS
theorem m_tw_o {t a z : Nat} (h : m_tw t a z) : 62 ≤ a ∧ a ≤ 67 := by unfold m_tw at h; omega
/-- what the reference's image reads -/
def m_o (t a z : Nat) : Prop := (a = 55 ∧ (z = 2 ∨ (40 ≤ z ∧ z ≤ 45))) ∨ (77 ≤ a ∧ a ≤ 85) ∨ m_tw t a z
theorem un_c {I I' : Nat → Nat → Int32} {t w a z : Nat} (hw : w ≤ 6) (e : ∀ a z, m_o t a z → I' a z = I a z) (h : m_v t w a z) : w_un I' a z = w_un I a z := by
  have f : ∀ z, (z = 2 ∨ (40 ≤ z ∧ z ≤ 45)) → I' 55 z = I 55 z := fun z hz => e 55 z (Or.inl ⟨rfl, hz⟩)
  have g : ∀ a z, 77 ≤ a → a ≤ 85 → I' a z = I a z := fun a z h1 h2 => e a z (Or.inr (Or.inl ⟨h1, h2⟩))
  rcases h with ⟨rfl, rfl | rfl | rfl | rfl | rfl | rfl⟩ | ⟨rfl | rfl | rfl | rfl, hz⟩ | ⟨rfl, hz⟩ | ⟨rfl | rfl, hz⟩ | ⟨rfl | rfl, hz⟩ | h
  · rw [un_0, un_0]; exact f _ (by decide)
  · rw [un_1, un_1]; exact f _ (by decide)
  · rw [un_f (by decide), un_f (by decide)]; exact f _ (by decide)
  · rw [un_9, un_9]; exact f _ (by decide)
  · rw [un_34, un_34]; exact f _ (by decide)
  · rw [un_35, un_35]; exact f _ (by decide)
  · rw [un_56 hz, un_56 hz]; exact g _ _ (by decide) (by decide)
  · rw [un_57 hz, un_57 hz]; exact g _ _ (by decide) (by decide)
  · rw [un_58 hz, un_58 hz]; exact g _ _ (by decide) (by decide)
  · rw [un_60 hz, un_60 hz]; exact g _ _ (by decide) (by decide)
  · rw [un_59 hz, un_59 hz]; exact g _ _ (by decide) (by decide)
  · rw [un_73 (by omega), un_73 (by omega)]; exact g _ _ (by decide) (by decide)
  · rw [un_76 (by omega), un_76 (by omega), g _ _ (by decide) (by decide)]
  · rw [un_74 hz, un_74 hz]; exact g _ _ (by decide) (by decide)
  · rw [un_75 hz, un_75 hz]; exact g _ _ (by decide) (by decide)
  · have := m_tw_o h
    rw [un_o (by omega), un_o (by omega)]
    exact e a z (Or.inr (Or.inr h))
def ZO (I : Nat → Nat → Int32) (t : Nat) : Option VI → Prop
  | none => I 55 40 = 0
  | some u => I 55 40 = nI 1 ∧ MVI (w_un I) t u
theorem ZO_c {I I' : Nat → Nat → Int32} {t : Nat} {o : Option VI} (h : ZO I t o) (h6 : t ≤ 6) (e : ∀ a z, m_o t a z → I' a z = I a z) : ZO I' t o := by
  have e40 : I' 55 40 = I 55 40 := e 55 40 (Or.inl ⟨rfl, by decide⟩)
  cases o with
  | none => exact e40.trans h
  | some u => exact ⟨e40.trans h.1, MVI_c h.2 h6 (fun a z q => un_c h.2.2.1.2.2.1 e q)⟩
theorem ZO_t {I : Nat → Nat → Int32} {t t' : Nat} {o : Option VI} (h : ZO I t o) (l : t ≤ t') : ZO I t' o := by
  cases o with
  | none => exact h
  | some u => exact ⟨h.1, MVI_t h.2 l⟩
theorem nar_p (b : Bool) : vp_nar .boolean (v_p (b = true)) = v_p (b = true) := v_p_nar
/-- the image of what is, and back -/
theorem un_im {I : Nat → Nat → Int32} {t : Nat} {u : VI} (h : MVI I t u) (h6 : t ≤ 6) : MVI (w_un (w_im I)) t u := by
  have hw6 := h.2.1.2.2.1
  refine MVI_c h h6 (fun a z q => ?_)
  rcases q with ⟨rfl, rfl | rfl | rfl | rfl | rfl | rfl⟩ | ⟨rfl | rfl | rfl | rfl, hz⟩ | ⟨rfl, hz⟩ | ⟨rfl | rfl, hz⟩ | ⟨rfl | rfl, hz⟩ | q
  · rw [un_0, im_42]
  · rw [un_1, im_43]
  · rw [un_f (by decide), im_f (by decide)]
  · rw [un_9, im_41]
  · rw [un_34, im_44]
  · rw [un_35, im_45]
  · rw [un_56 hz, im_77 hz]
  · rw [un_57 hz, im_78 hz]
  · rw [un_58 hz, im_79 hz]
  · rw [un_60 hz, im_81 hz]
  · rw [un_59 hz, im_80 hz]
  · rw [un_73 (by omega), im_82 (by omega)]
  · have hq : (u_w u)[z]? = some (u_w u)[z] := List.getElem?_eq_getElem hz
    rw [un_76 (by omega), im_85 (by omega), (h.2.2.2.2.1.2 z _ hq).2, nar_p, nar_p]
  · rw [un_74 hz, im_83 hz]
  · rw [un_75 hz, im_84 hz]
  · have := m_tw_o q
    rw [un_o (by omega), im_o (by omega)]
theorem un_un {I : Nat → Nat → Int32} {t : Nat} {u : VI} (h : MVI (w_un I) t u) (h6 : t ≤ 6) : MVI (w_un (w_un I)) t u := by
  refine MVI_c h h6 (fun a z q => un_c (I := I) (I' := w_un I) h.2.1.2.2.1 (fun a z q => ?_) q)
  rcases q with ⟨rfl, q⟩ | q | q
  · exact un_f (by omega)
  · exact un_o (by omega)
  · have := m_tw_o q
    exact un_o (by omega)
/-! the reference's other cells -/
def m_x (a z : Nat) : Prop := (a = 55 ∧ (z = 8 ∨ z = 10 ∨ z = 55)) ∨ a = 61 ∨ a = 69 ∨ a = 86 ∨ a = 87 ∨ a = 88
def ZX (I : Nat → Nat → Int32) (J : Nat → Nat → Int64) (g : ZS) : Prop := MTx I (st_x g) ∧ ML I ∧ (I 55 8 = nI (st_t g) ∧ st_t g ≤ 6) ∧ MTr I (st_r g) ∧ MTp I J (st_p g) ∧ TV (st_p g)
theorem ZX_c {I I' : Nat → Nat → Int32} {J J' : Nat → Nat → Int64} {g : ZS} (h : ZX I J g) (e : ∀ a z, m_x a z → I' a z = I a z) (eJ : ∀ z, J' 89 z = J 89 z) : ZX I' J' g := by
  obtain ⟨hx, hl, ht, hr, hp, hv⟩ := h
  have f : ∀ z, (z = 8 ∨ z = 10 ∨ z = 55) → I' 55 z = I 55 z := fun z hz => e 55 z (Or.inl ⟨rfl, hz⟩)
  have fa : ∀ a z, (a = 61 ∨ a = 69 ∨ a = 86 ∨ a = 87 ∨ a = 88) → I' a z = I a z := fun a z ha => e a z (Or.inr ha)
  exact ⟨⟨(f 10 (by decide)).trans hx.1, hx.2.1, fun j c hj => ⟨(fa 61 j (by decide)).trans (hx.2.2 j c hj).1, (hx.2.2 j c hj).2⟩⟩, fun j c hj => (fa 69 j (by decide)).trans (hl j c hj), ⟨(f 8 (by decide)).trans ht.1, ht.2⟩,
    ⟨(f 55 (by decide)).trans hr.1, hr.2.1, fun j c hj => (fa 86 j (by decide)).trans (hr.2.2 j c hj)⟩, fun i hi => ⟨(fa 87 i (by decide)).trans (hp i hi).1, (fa 88 i (by decide)).trans (hp i hi).2.1, fun j hj => (eJ _).trans ((hp i hi).2.2 j hj)⟩, hv⟩
def ZR (I : Nat → Nat → Int32) (J : Nat → Nat → Int64) (g : ZS) : Prop := MVI I (st_t g) (st_u g) ∧ ZO I (st_t g) (st_o g) ∧ ZX I J g
/-- the reference's scratch -/
def m_sc (a z : Nat) : Prop := a = 68 ∨ a = 70 ∨ a = 71 ∨ a = 72 ∨ (a = 55 ∧ (z = 11 ∨ z = 12 ∨ z = 21 ∨ z = 22 ∨ z = 23 ∨ z = 26 ∨ z = 27 ∨ z = 29 ∨ z = 30 ∨ z = 31 ∨ z = 32))
theorem ZR_c {I I' : Nat → Nat → Int32} {J J' : Nat → Nat → Int64} {g : ZS} (h : ZR I J g) (e : ∀ a z, 55 ≤ a → a ≤ 90 → ¬ m_sc a z → I' a z = I a z) (eJ : ∀ z, J' 89 z = J 89 z) : ZR I' J' g := by
  have h6 := h.2.2.2.2.1.2
  refine ⟨MVI_c h.1 h6 (fun a z q => e a z ?_ ?_ ?_), ZO_c h.2.1 h6 (fun a z q => e a z ?_ ?_ ?_), ZX_c h.2.2 (fun a z q => e a z ?_ ?_ ?_) eJ⟩
  all_goals first | unfold m_v m_tw at q | unfold m_o m_tw at q | unfold m_x at q
  all_goals first | omega | (unfold m_sc; omega)
theorem ZR_J {I I' : Nat → Nat → Int32} {J : Nat → Nat → Int64} {g : ZS} (h : ZR I J g) (j : mJ I I') : ZR I' J g := ZR_c h (fun a z _ _ n => j a z (fun q => n (by unfold m_jk at q; unfold m_sc; omega))) (fun _ => rfl)
