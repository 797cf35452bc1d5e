/-! THE START: what lies there -/
set_option maxRecDepth 20000 in
theorem MS_z (ty : v_TY) (I : Nat → Nat → Int32) (J : Nat → Nat → Int64) (R : Nat → Nat → Option Nat) : ∀ a ∈ [3, 4, 5, 6, 7, 8, 9, 10, 13, 14, 15, 16, 17, 18, 19, 20, 23, 24, 25, 26, 27, 28, 29, 30, 32, 33, 34, 35, 36, 37, 40, 41, 42, 56, 57, 58, 59, 60, 61, 62, 63, 64, 65, 66, 67, 68, 70, 71, 72, 73, 74, 75, 76, 77, 78, 79, 80, 81, 82, 83, 84, 85, 86, 88, 1, 11, 21, 31, 39], ∀ z, (MS ((1, ty), I, J, R)).2.1 a z = 0 := by
  refine fmc (fun z => rfl) ?_
  refine fmc (fun z => rfl) ?_
  refine fmc (fun z => rfl) ?_
  refine fmc (fun z => rfl) ?_
  refine fmc (fun z => rfl) ?_
  refine fmc (fun z => rfl) ?_
  refine fmc (fun z => rfl) ?_
  refine fmc (fun z => rfl) ?_
  refine fmc (fun z => rfl) ?_
  refine fmc (fun z => rfl) ?_
  refine fmc (fun z => rfl) ?_
  refine fmc (fun z => rfl) ?_
  refine fmc (fun z => rfl) ?_
  refine fmc (fun z => rfl) ?_
  refine fmc (fun z => rfl) ?_
  refine fmc (fun z => rfl) ?_
  refine fmc (fun z => rfl) ?_
  refine fmc (fun z => rfl) ?_
  refine fmc (fun z => rfl) ?_
  refine fmc (fun z => rfl) ?_
  refine fmc (fun z => rfl) ?_
  refine fmc (fun z => rfl) ?_
  refine fmc (fun z => rfl) ?_
  refine fmc (fun z => rfl) ?_
  refine fmc (fun z => rfl) ?_
  refine fmc (fun z => rfl) ?_
  refine fmc (fun z => rfl) ?_
  refine fmc (fun z => rfl) ?_
  refine fmc (fun z => rfl) ?_
  refine fmc (fun z => rfl) ?_
  refine fmc (fun z => rfl) ?_
  refine fmc (fun z => rfl) ?_
  refine fmc (fun z => rfl) ?_
  refine fmc (fun z => rfl) ?_
  refine fmc (fun z => rfl) ?_
  refine fmc (fun z => rfl) ?_
  refine fmc (fun z => rfl) ?_
  refine fmc (fun z => rfl) ?_
  refine fmc (fun z => rfl) ?_
  refine fmc (fun z => rfl) ?_
  refine fmc (fun z => rfl) ?_
  refine fmc (fun z => rfl) ?_
  refine fmc (fun z => rfl) ?_
  refine fmc (fun z => rfl) ?_
  refine fmc (fun z => rfl) ?_
  refine fmc (fun z => rfl) ?_
  refine fmc (fun z => rfl) ?_
  refine fmc (fun z => rfl) ?_
  refine fmc (fun z => rfl) ?_
  refine fmc (fun z => rfl) ?_
  refine fmc (fun z => rfl) ?_
  refine fmc (fun z => rfl) ?_
  refine fmc (fun z => rfl) ?_
  refine fmc (fun z => rfl) ?_
  refine fmc (fun z => rfl) ?_
  refine fmc (fun z => rfl) ?_
  refine fmc (fun z => rfl) ?_
  refine fmc (fun z => rfl) ?_
  refine fmc (fun z => rfl) ?_
  refine fmc (fun z => rfl) ?_
  refine fmc (fun z => rfl) ?_
  refine fmc (fun z => rfl) ?_
  refine fmc (fun z => rfl) ?_
  refine fmc (fun z => rfl) ?_
  refine fmc (fun z => rfl) ?_
  refine fmc (fun z => rfl) ?_
  refine fmc (fun z => rfl) ?_
  refine fmc (fun z => rfl) ?_
  refine fmc (fun z => rfl) ?_
  exact fmz
set_option maxRecDepth 20000 in
theorem MS_j (ty : v_TY) (I : Nat → Nat → Int32) (J : Nat → Nat → Int64) (R : Nat → Nat → Option Nat) : ∀ a ∈ [44, 46, 48, 50, 52, 54, 89, 90], ∀ z, (MS ((1, ty), I, J, R)).2.2.1 a z = 0 := by
  refine fmc (fun z => rfl) ?_
  refine fmc (fun z => rfl) ?_
  refine fmc (fun z => rfl) ?_
  refine fmc (fun z => rfl) ?_
  refine fmc (fun z => rfl) ?_
  refine fmc (fun z => rfl) ?_
  refine fmc (fun z => rfl) ?_
  refine fmc (fun z => rfl) ?_
  exact fmz
set_option maxRecDepth 20000 in
theorem MS_r (ty : v_TY) (I : Nat → Nat → Int32) (J : Nat → Nat → Int64) (R : Nat → Nat → Option Nat) : (∀ z, (MS ((1, ty), I, J, R)).2.2.2 2 z = none) ∧ (∀ z, (MS ((1, ty), I, J, R)).2.2.2 12 z = none) ∧ (∀ z, (MS ((1, ty), I, J, R)).2.2.2 22 z = none) ∧ (MS ((1, ty), I, J, R)).2.2.2 1 3 = none ∧ (MS ((1, ty), I, J, R)).2.2.2 11 3 = none ∧ (MS ((1, ty), I, J, R)).2.2.2 21 3 = none ∧ (MS ((1, ty), I, J, R)).2.2.2 0 4 = some 31 := ⟨fun z => rfl, fun z => rfl, fun z => rfl, rfl, rfl, rfl, rfl⟩
set_option maxRecDepth 20000 in
theorem MS_l (ty : v_TY) (I : Nat → Nat → Int32) (J : Nat → Nat → Int64) (R : Nat → Nat → Option Nat) : ∀ q ∈ [(0, 119), (1, 97), (2, 110), (3, 116), (4, 109), (5, 97), (6, 107), (7, 101), (8, 98), (9, 114), (10, 101), (11, 97), (12, 107)], (MS ((1, ty), I, J, R)).2.1 69 q.1 = nI q.2 := by
  refine fmc rfl ?_
  refine fmc rfl ?_
  refine fmc rfl ?_
  refine fmc rfl ?_
  refine fmc rfl ?_
  refine fmc rfl ?_
  refine fmc rfl ?_
  refine fmc rfl ?_
  refine fmc rfl ?_
  refine fmc rfl ?_
  refine fmc rfl ?_
  refine fmc rfl ?_
  refine fmc rfl ?_
  exact fmz
set_option maxRecDepth 20000 in
theorem MS_t (ty : v_TY) (I : Nat → Nat → Int32) (J : Nat → Nat → Int64) (R : Nat → Nat → Option Nat) : ∀ i ∈ [0, 1, 2, 3, 4, 5], (MS ((1, ty), I, J, R)).2.1 87 i = -1 ∧ (MS ((1, ty), I, J, R)).2.1 (43 + 2 * i) 0 = -1 ∧ (MS ((1, ty), I, J, R)).2.1 (43 + 2 * i) 1 = 0 := by
  refine fmc ⟨rfl, rfl, rfl⟩ ?_
  refine fmc ⟨rfl, rfl, rfl⟩ ?_
  refine fmc ⟨rfl, rfl, rfl⟩ ?_
  refine fmc ⟨rfl, rfl, rfl⟩ ?_
  refine fmc ⟨rfl, rfl, rfl⟩ ?_
  refine fmc ⟨rfl, rfl, rfl⟩ ?_
  exact fmz
