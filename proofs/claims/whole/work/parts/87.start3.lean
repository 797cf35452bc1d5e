/-! THE START: the two objects' own fields -/
set_option maxRecDepth 20000 in
theorem MS_0 (ty : v_TY) (I : Nat → Nat → Int32) (J : Nat → Nat → Int64) (R : Nat → Nat → Option Nat) (z : Nat) : (MS ((1, ty), I, J, R)).2.1 0 z = I 0 z := rfl
set_option maxRecDepth 20000 in
theorem MS_f (ty : v_TY) (I : Nat → Nat → Int32) (J : Nat → Nat → Int64) (R : Nat → Nat → Option Nat) : ∀ q ∈ ([(0, 0), (1, 0), (2, -1), (8, 0), (9, -1), (10, 0), (11, 0), (12, 0), (21, 0), (22, 0), (23, 0), (26, 0), (27, 0), (29, 0), (30, -1), (31, 0), (32, 0), (34, 0), (35, 0), (40, 0), (41, -1), (42, 0), (43, 0), (44, 0), (45, 0), (55, 0)] : List (Nat × Int32)), (MS ((1, ty), I, J, R)).2.1 55 q.1 = q.2 := by
  refine fmc rfl ?_
  refine fmc rfl ?_
  refine fmc rfl ?_
  refine fmc rfl ?_
  refine fmc rfl ?_
  refine fmc rfl ?_
  refine fmc rfl ?_
  refine fmc rfl ?_
  refine fmc rfl ?_
  refine fmc rfl ?_
  refine fmc rfl ?_
  refine fmc rfl ?_
  refine fmc rfl ?_
  refine fmc rfl ?_
  refine fmc rfl ?_
  refine fmc rfl ?_
  refine fmc rfl ?_
  refine fmc rfl ?_
  refine fmc rfl ?_
  refine fmc rfl ?_
  refine fmc rfl ?_
  refine fmc rfl ?_
  refine fmc rfl ?_
  refine fmc rfl ?_
  refine fmc rfl ?_
  refine fmc rfl ?_
  exact fmz
