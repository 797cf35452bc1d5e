/-! THE START: both are new -/
def b00 : BS := (0, 0, fun _ => 0, fun _ => 0, fun _ => 0, fun _ => 0)
def g00 : ZS := ((b00, fun _ => 0, [], [], []), none, 0, [], fun _ => (none, 0, fun _ => 0), [])
theorem VB00 : VB b00 := ⟨Nat.zero_le _, by decide, fun _ => Nat.zero_le _, fun _ => Nat.zero_le _, fun _ => Nat.zero_lt_succ _, fun _ => Nat.zero_le _, fun i j => (Nat.zero_testBit j).trans (Nat.zero_testBit i).symm, fun i => Nat.zero_testBit i, fun _ j _ => Nat.zero_testBit j⟩
theorem let_at : ∀ (j c : Nat), w_let[j]? = some c → (j, c) ∈ [(0, 119), (1, 97), (2, 110), (3, 116), (4, 109), (5, 97), (6, 107), (7, 101), (8, 98), (9, 114), (10, 101), (11, 97), (12, 107)] := by
  intro j c h
  have hj : j < 13 := (List.getElem?_eq_some_iff.mp h).1
  rcases (show j = 0 ∨ j = 1 ∨ j = 2 ∨ j = 3 ∨ j = 4 ∨ j = 5 ∨ j = 6 ∨ j = 7 ∨ j = 8 ∨ j = 9 ∨ j = 10 ∨ j = 11 ∨ j = 12 by omega) with rfl | rfl | rfl | rfl | rfl | rfl | rfl | rfl | rfl | rfl | rfl | rfl | rfl <;> (cases h; decide)
theorem TV00 : TV (fun _ => (none, 0, fun _ => 0)) := fun i hi => ⟨Nat.zero_le _, fun s hs => (by cases hs), fun _ => rfl, fun q => (by cases q)⟩
theorem n64 (i : Nat) (hi : i < 6) : 44 + 2 * i ∈ [44, 46, 48, 50, 52, 54, 89, 90] := by
  rcases (show i = 0 ∨ i = 1 ∨ i = 2 ∨ i = 3 ∨ i = 4 ∨ i = 5 by omega) with rfl | rfl | rfl | rfl | rfl | rfl <;> decide
theorem i06 (i : Nat) (hi : i < 6) : i ∈ [0, 1, 2, 3, 4, 5] := by
  rcases (show i = 0 ∨ i = 1 ∨ i = 2 ∨ i = 3 ∨ i = 4 ∨ i = 5 by omega) with rfl | rfl | rfl | rfl | rfl | rfl <;> decide
theorem ZJ_of {K : Nat × v_TY} {I : Nat → Nat → Int32} {J : Nat → Nat → Int64} {R : Nat → Nat → Option Nat} (hL : Lay K R) (hK : 91 ≤ K.1)
    (hz : ∀ a ∈ [3, 4, 5, 6, 7, 8, 9, 10, 13, 14, 15, 16, 17, 18, 19, 20, 23, 24, 25, 26, 27, 28, 29, 30, 32, 33, 34, 35, 36, 37, 40, 41, 42, 56, 57, 58, 59, 60, 61, 62, 63, 64, 65, 66, 67, 68, 70, 71, 72, 73, 74, 75, 76, 77, 78, 79, 80, 81, 82, 83, 84, 85, 86, 88, 1, 11, 21, 31, 39], ∀ z, I a z = 0)
    (hj : ∀ a ∈ [44, 46, 48, 50, 52, 54, 89, 90], ∀ z, J a z = 0)
    (hr : (∀ z, R 2 z = none) ∧ (∀ z, R 12 z = none) ∧ (∀ z, R 22 z = none) ∧ R 1 3 = none ∧ R 11 3 = none ∧ R 21 3 = none ∧ R 0 4 = some 31)
    (hl : ∀ q ∈ [(0, 119), (1, 97), (2, 110), (3, 116), (4, 109), (5, 97), (6, 107), (7, 101), (8, 98), (9, 114), (10, 101), (11, 97), (12, 107)], I 69 q.1 = nI q.2)
    (ht : ∀ i ∈ [0, 1, 2, 3, 4, 5], I 87 i = -1 ∧ I (43 + 2 * i) 0 = -1 ∧ I (43 + 2 * i) 1 = 0) (h0 : ∀ z, I 0 z = 0)
    (hf : ∀ q ∈ ([(0, 0), (1, 0), (2, -1), (8, 0), (9, -1), (10, 0), (11, 0), (12, 0), (21, 0), (22, 0), (23, 0), (26, 0), (27, 0), (29, 0), (30, -1), (31, 0), (32, 0), (34, 0), (35, 0), (40, 0), (41, -1), (42, 0), (43, 0), (44, 0), (45, 0), (55, 0)] : List (Nat × Int32)), I 55 q.1 = q.2) : ZJ K I J R g00 := by
  refine ⟨hL, hK, ⟨⟨⟨⟨⟨hf (0, 0) (by decide), hf (1, 0) (by decide), fun i _ => hz 56 (by decide) i, fun i _ => hz 57 (by decide) i, fun i _ => hz 58 (by decide) i, fun i _ => hz 59 (by decide) i⟩, VB00, Or.inr ⟨rfl, hf (2, -1) (by decide)⟩⟩, Or.inl ⟨rfl, hf (9, -1) (by decide)⟩⟩, ⟨⟨fun _ _ => ⟨rfl, rfl, rfl⟩, fun _ _ => rfl, fun _ => Nat.zero_le _⟩, Nat.zero_le _, Nat.zero_le _, fun q hq => absurd hq List.not_mem_nil, Nat.zero_le _, fun q hq => absurd hq List.not_mem_nil⟩, fun i _ => hz 60 (by decide) i, Or.inl (hf (9, -1) (by decide)), ⟨hf (34, 0) (by decide), fun j q hq => (by cases hq)⟩, ⟨hf (35, 0) (by decide), fun j q hq => (by cases hq)⟩⟩, hf (40, 0) (by decide), ⟨hf (10, 0) (by decide), Nat.zero_le _, fun j c hc => (by cases hc)⟩, fun j c hc => hl (j, c) (let_at j c hc), ⟨hf (8, 0) (by decide), Nat.zero_le _⟩, ⟨hf (55, 0) (by decide), Nat.zero_le _, fun j c hc => (by cases hc)⟩, fun i hi => ⟨(ht i (i06 i hi)).1, hz 88 (by decide) i, fun j _ => hj 89 (by decide) _⟩, TV00⟩, ?_⟩
  refine ⟨⟨0, ⟨⟨hz 1 (by decide) 0, hz 1 (by decide) 1, hz 1 (by decide) 2, fun i _ => hz 3 (by decide) i, fun i _ => hz 4 (by decide) i⟩, VB00, ⟨by decide, fun j hj => (by simp at hj)⟩, fun i hi => absurd hi (Nat.not_lt_zero i), Or.inl ⟨hr.2.2.2.1, rfl⟩⟩, ⟨by decide, fun j => (Nat.zero_testBit j).trans (decide_eq_false (Nat.not_lt_zero j)).symm⟩, fun i _ => hz 5 (by decide) i, ⟨hz 1 (by decide) 8, fun j q hq => (by cases hq)⟩, ⟨hz 1 (by decide) 11, fun j q hq => (by cases hq)⟩⟩, ⟨h0 3, 0, hz 11 (by decide) 0⟩, ⟨fun i _ a ha => ?_, fun i _ a ha => ?_⟩, ⟨31, hr.2.2.2.2.2.2, ⟨li_31 hL, ⟨li_32 hL, li_33 hL, li_34 hL, li_35 hL, li_36 hL⟩, ⟨lr_31_1 hL, lr_31_4 hL, lr_31_5 hL, lr_31_6 hL, lr_31_7 hL⟩, Or.inl rfl⟩, fun h hh t' ht' => ?_⟩, ⟨h0 5, ⟨h0 7, fun j c hc => (by cases hc), fun j _ => ⟨0, by decide, hz 37 (by decide) j⟩⟩, ⟨hz 39 (by decide) 1, Nat.zero_le _, fun j c hc => (by cases hc)⟩, fun i hi => ⟨(ht i (i06 i hi)).2.1, (ht i (i06 i hi)).2.2, fun j _ => hj _ (n64 i hi) j⟩⟩⟩
  · rw [hr.1] at ha; cases ha
  · rw [hr.2.1] at ha; cases ha
  · rcases hh with rfl | rfl
    · rw [hr.2.2.2.1] at ht'; cases ht'
    · rw [hr.2.2.2.2.1] at ht'; cases ht'
theorem ZJ_start (ty : v_TY) (I : Nat → Nat → Int32) (J : Nat → Nat → Int64) (R : Nat → Nat → Option Nat) (h0 : ty 0 = (11, 0)) (hI : ∀ z, I 0 z = 0) : ∃ K' I' J' R', MS ((1, ty), I, J, R) = (K', I', J', R') ∧ K'.1 = 91 ∧ ZJ K' I' J' R' g00 := by
  have a1 := MS_n ty I J R
  have a2 := Lay_start ty I J R h0
  have a3 := MS_z ty I J R
  have a4 := MS_j ty I J R
  have a5 := MS_r ty I J R
  have a6 := MS_l ty I J R
  have a7 := MS_t ty I J R
  have a8 := fun z => (MS_0 ty I J R z).trans (hI z)
  have a9 := MS_f ty I J R
  generalize MS ((1, ty), I, J, R) = M at *
  obtain ⟨K', I', J', R'⟩ := M
  exact ⟨K', I', J', R', rfl, a1, ZJ_of a2 (Nat.le_of_eq a1.symm) a3 a4 a5 a6 a7 a8 a9⟩
