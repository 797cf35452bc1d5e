/-! THE START: what both constructors make is the layout -/
def M11 (M : v_MM) : v_MM := (nP 5 (nP 4 (nP 3 (nP 2 (nP 1 (nP 0 (nA 14 4 11 (nA 14 15 10 (nR 9 (nA 18 6 8 (nA 13 100 6 (nT 4 (nV 2 (nV 1 (nV 0 M)))))))))))))))
def M12 (M : v_MM) : v_MM := (aW 15 60 60 [] (aW 15 360 59 [] (aW 14 6 58 [] (aW 14 6 57 [(0, (-1)), (1, (-1)), (2, (-1)), (3, (-1)), (4, (-1)), (5, (-1))] (aW 14 20 56 [] (pI 55 (nI 0) (aW 16 6 54 [] (aW 14 12 53 [] (aW 14 12 52 [] (aW 14 6 51 [] (aW 14 7 50 [] (aW 14 28 49 [] (aW 14 7 48 [] (aW 14 7 47 [] (aW 14 7 46 [] (pI 45 (nI 0) (pI 44 (nI 0) (pI 43 (nI 0) (pI 42 (nI 0) (pI 41 (-1) (pI 40 (nI 0) (aW 16 6 39 [] (aW 14 12 38 [] (aW 14 12 37 [] (aW 14 6 36 [] (pI 35 (nI 0) (pI 34 (nI 0) (aW 14 5 33 [] (pI 32 (nI 0) (pI 31 (nI 0) (pI 30 (-1) (pI 29 (nI 0) (aW 14 7 28 [] (pI 27 (nI 0) (pI 26 (nI 0) (aW 16 100 25 [] (aW 14 13 24 [(0, (nI 119)), (1, (nI 97)), (2, (nI 110)), (3, (nI 116)), (4, (nI 109)), (5, (nI 97)), (6, (nI 107)), (7, (nI 101)), (8, (nI 98)), (9, (nI 114)), (10, (nI 101)), (11, (nI 97)), (12, (nI 107))] (pI 23 (nI 0) (pI 22 (nI 0) (pI 21 (nI 0) (aW 14 101 20 [] (aW 14 600 19 [] (aW 14 60 18 [] (aW 14 60 17 [] (aW 14 60 16 [] (aW 14 60 15 [] (aW 14 6 14 [] (aW 14 100 13 [] (pI 12 (nI 0) (pI 11 (nI 0) (pI 10 (nI 0) (pI 9 (-1) (pI 8 (nI 0) (aW 14 7 7 [] (aW 14 28 6 [] (aW 14 7 5 [] (aW 14 7 4 [] (aW 14 7 3 [] (pI 2 (-1) (pI 1 (nI 0) (pI 0 (nI 0) M)))))))))))))))))))))))))))))))))))))))))))))))))))))))))))))
def nX (M : v_MM) : v_MM := (v_k M.1 12 0, v_z M.2.1 M.1.1 0, v_z M.2.2.1 M.1.1 0, v_z M.2.2.2 M.1.1 none)
def MS (M : v_MM) : v_MM := M12 (nX (M11 M))
theorem MS_n (ty : v_TY) (I : Nat → Nat → Int32) (J : Nat → Nat → Int64) (R : Nat → Nat → Option Nat) : (MS ((1, ty), I, J, R)).1.1 = 91 := rfl
theorem MS_5 (ty : v_TY) (I : Nat → Nat → Int32) (J : Nat → Nat → Int64) (R : Nat → Nat → Option Nat) : (MS ((1, ty), I, J, R)).1.2 90 = (15, 60) := rfl
theorem fmc {α : Type} {P : α → Prop} {a : α} {l : List α} (h : P a) (h2 : ∀ q ∈ l, P q) : ∀ q ∈ a :: l, P q := fun q hq => (List.mem_cons.mp hq).elim (fun e => e ▸ h) (h2 q)
theorem fmz {α : Type} {P : α → Prop} : ∀ q ∈ ([] : List α), P q := fun q hq => by cases hq
set_option maxRecDepth 20000 in
theorem Lay_start (ty : v_TY) (I : Nat → Nat → Int32) (J : Nat → Nat → Int64) (R : Nat → Nat → Option Nat) (h0 : ty 0 = (11, 0)) : Lay (MS ((1, ty), I, J, R)).1 (MS ((1, ty), I, J, R)).2.2.2 := by
  constructor
  · unfold v_layT
    refine fmc ⟨(show 0 < 91 by decide), h0⟩ ?_
    refine fmc ⟨(show 1 < 91 by decide), rfl⟩ ?_
    refine fmc ⟨(show 2 < 91 by decide), rfl⟩ ?_
    refine fmc ⟨(show 3 < 91 by decide), rfl⟩ ?_
    refine fmc ⟨(show 4 < 91 by decide), rfl⟩ ?_
    refine fmc ⟨(show 5 < 91 by decide), rfl⟩ ?_
    refine fmc ⟨(show 6 < 91 by decide), rfl⟩ ?_
    refine fmc ⟨(show 7 < 91 by decide), rfl⟩ ?_
    refine fmc ⟨(show 8 < 91 by decide), rfl⟩ ?_
    refine fmc ⟨(show 9 < 91 by decide), rfl⟩ ?_
    refine fmc ⟨(show 10 < 91 by decide), rfl⟩ ?_
    refine fmc ⟨(show 11 < 91 by decide), rfl⟩ ?_
    refine fmc ⟨(show 12 < 91 by decide), rfl⟩ ?_
    refine fmc ⟨(show 13 < 91 by decide), rfl⟩ ?_
    refine fmc ⟨(show 14 < 91 by decide), rfl⟩ ?_
    refine fmc ⟨(show 15 < 91 by decide), rfl⟩ ?_
    refine fmc ⟨(show 16 < 91 by decide), rfl⟩ ?_
    refine fmc ⟨(show 17 < 91 by decide), rfl⟩ ?_
    refine fmc ⟨(show 18 < 91 by decide), rfl⟩ ?_
    refine fmc ⟨(show 19 < 91 by decide), rfl⟩ ?_
    refine fmc ⟨(show 20 < 91 by decide), rfl⟩ ?_
    refine fmc ⟨(show 21 < 91 by decide), rfl⟩ ?_
    refine fmc ⟨(show 22 < 91 by decide), rfl⟩ ?_
    refine fmc ⟨(show 23 < 91 by decide), rfl⟩ ?_
    refine fmc ⟨(show 24 < 91 by decide), rfl⟩ ?_
    refine fmc ⟨(show 25 < 91 by decide), rfl⟩ ?_
    refine fmc ⟨(show 26 < 91 by decide), rfl⟩ ?_
    refine fmc ⟨(show 27 < 91 by decide), rfl⟩ ?_
    refine fmc ⟨(show 28 < 91 by decide), rfl⟩ ?_
    refine fmc ⟨(show 29 < 91 by decide), rfl⟩ ?_
    refine fmc ⟨(show 30 < 91 by decide), rfl⟩ ?_
    refine fmc ⟨(show 31 < 91 by decide), rfl⟩ ?_
    refine fmc ⟨(show 32 < 91 by decide), rfl⟩ ?_
    refine fmc ⟨(show 33 < 91 by decide), rfl⟩ ?_
    refine fmc ⟨(show 34 < 91 by decide), rfl⟩ ?_
    refine fmc ⟨(show 35 < 91 by decide), rfl⟩ ?_
    refine fmc ⟨(show 36 < 91 by decide), rfl⟩ ?_
    refine fmc ⟨(show 37 < 91 by decide), rfl⟩ ?_
    refine fmc ⟨(show 38 < 91 by decide), rfl⟩ ?_
    refine fmc ⟨(show 39 < 91 by decide), rfl⟩ ?_
    refine fmc ⟨(show 40 < 91 by decide), rfl⟩ ?_
    refine fmc ⟨(show 41 < 91 by decide), rfl⟩ ?_
    refine fmc ⟨(show 42 < 91 by decide), rfl⟩ ?_
    refine fmc ⟨(show 43 < 91 by decide), rfl⟩ ?_
    refine fmc ⟨(show 44 < 91 by decide), rfl⟩ ?_
    refine fmc ⟨(show 45 < 91 by decide), rfl⟩ ?_
    refine fmc ⟨(show 46 < 91 by decide), rfl⟩ ?_
    refine fmc ⟨(show 47 < 91 by decide), rfl⟩ ?_
    refine fmc ⟨(show 48 < 91 by decide), rfl⟩ ?_
    refine fmc ⟨(show 49 < 91 by decide), rfl⟩ ?_
    refine fmc ⟨(show 50 < 91 by decide), rfl⟩ ?_
    refine fmc ⟨(show 51 < 91 by decide), rfl⟩ ?_
    refine fmc ⟨(show 52 < 91 by decide), rfl⟩ ?_
    refine fmc ⟨(show 53 < 91 by decide), rfl⟩ ?_
    refine fmc ⟨(show 54 < 91 by decide), rfl⟩ ?_
    refine fmc ⟨(show 55 < 91 by decide), rfl⟩ ?_
    refine fmc ⟨(show 56 < 91 by decide), rfl⟩ ?_
    refine fmc ⟨(show 57 < 91 by decide), rfl⟩ ?_
    refine fmc ⟨(show 58 < 91 by decide), rfl⟩ ?_
    refine fmc ⟨(show 59 < 91 by decide), rfl⟩ ?_
    refine fmc ⟨(show 60 < 91 by decide), rfl⟩ ?_
    refine fmc ⟨(show 61 < 91 by decide), rfl⟩ ?_
    refine fmc ⟨(show 62 < 91 by decide), rfl⟩ ?_
    refine fmc ⟨(show 63 < 91 by decide), rfl⟩ ?_
    refine fmc ⟨(show 64 < 91 by decide), rfl⟩ ?_
    refine fmc ⟨(show 65 < 91 by decide), rfl⟩ ?_
    refine fmc ⟨(show 66 < 91 by decide), rfl⟩ ?_
    refine fmc ⟨(show 67 < 91 by decide), rfl⟩ ?_
    refine fmc ⟨(show 68 < 91 by decide), rfl⟩ ?_
    refine fmc ⟨(show 69 < 91 by decide), rfl⟩ ?_
    refine fmc ⟨(show 70 < 91 by decide), rfl⟩ ?_
    refine fmc ⟨(show 71 < 91 by decide), rfl⟩ ?_
    refine fmc ⟨(show 72 < 91 by decide), rfl⟩ ?_
    refine fmc ⟨(show 73 < 91 by decide), rfl⟩ ?_
    refine fmc ⟨(show 74 < 91 by decide), rfl⟩ ?_
    refine fmc ⟨(show 75 < 91 by decide), rfl⟩ ?_
    refine fmc ⟨(show 76 < 91 by decide), rfl⟩ ?_
    refine fmc ⟨(show 77 < 91 by decide), rfl⟩ ?_
    refine fmc ⟨(show 78 < 91 by decide), rfl⟩ ?_
    refine fmc ⟨(show 79 < 91 by decide), rfl⟩ ?_
    refine fmc ⟨(show 80 < 91 by decide), rfl⟩ ?_
    refine fmc ⟨(show 81 < 91 by decide), rfl⟩ ?_
    refine fmc ⟨(show 82 < 91 by decide), rfl⟩ ?_
    refine fmc ⟨(show 83 < 91 by decide), rfl⟩ ?_
    refine fmc ⟨(show 84 < 91 by decide), rfl⟩ ?_
    refine fmc ⟨(show 85 < 91 by decide), rfl⟩ ?_
    refine fmc ⟨(show 86 < 91 by decide), rfl⟩ ?_
    refine fmc ⟨(show 87 < 91 by decide), rfl⟩ ?_
    refine fmc ⟨(show 88 < 91 by decide), rfl⟩ ?_
    refine fmc ⟨(show 89 < 91 by decide), rfl⟩ ?_
    refine fmc ⟨(show 90 < 91 by decide), rfl⟩ ?_
    exact fmz
  · unfold v_layR
    refine fmc rfl ?_
    refine fmc rfl ?_
    refine fmc rfl ?_
    refine fmc rfl ?_
    refine fmc rfl ?_
    refine fmc rfl ?_
    refine fmc rfl ?_
    refine fmc rfl ?_
    refine fmc rfl ?_
    refine fmc rfl ?_
    refine fmc rfl ?_
    refine fmc rfl ?_
    refine fmc rfl ?_
    refine fmc rfl ?_
    refine fmc rfl ?_
    refine fmc rfl ?_
    refine fmc rfl ?_
    refine fmc rfl ?_
    refine fmc rfl ?_
    refine fmc rfl ?_
    refine fmc rfl ?_
    refine fmc rfl ?_
    refine fmc rfl ?_
    refine fmc rfl ?_
    refine fmc rfl ?_
    refine fmc rfl ?_
    refine fmc rfl ?_
    refine fmc rfl ?_
    refine fmc rfl ?_
    refine fmc rfl ?_
    refine fmc rfl ?_
    refine fmc rfl ?_
    refine fmc rfl ?_
    refine fmc rfl ?_
    refine fmc rfl ?_
    refine fmc rfl ?_
    refine fmc rfl ?_
    refine fmc rfl ?_
    refine fmc rfl ?_
    refine fmc rfl ?_
    refine fmc rfl ?_
    refine fmc rfl ?_
    refine fmc rfl ?_
    refine fmc rfl ?_
    refine fmc rfl ?_
    refine fmc rfl ?_
    refine fmc rfl ?_
    refine fmc rfl ?_
    refine fmc rfl ?_
    refine fmc rfl ?_
    refine fmc rfl ?_
    refine fmc rfl ?_
    refine fmc rfl ?_
    refine fmc rfl ?_
    refine fmc rfl ?_
    refine fmc rfl ?_
    refine fmc rfl ?_
    refine fmc rfl ?_
    refine fmc rfl ?_
    refine fmc rfl ?_
    refine fmc rfl ?_
    refine fmc rfl ?_
    refine fmc rfl ?_
    refine fmc rfl ?_
    refine fmc rfl ?_
    refine fmc rfl ?_
    refine fmc rfl ?_
    refine fmc rfl ?_
    refine fmc rfl ?_
    refine fmc rfl ?_
    refine fmc rfl ?_
    refine fmc rfl ?_
    refine fmc rfl ?_
    refine fmc rfl ?_
    refine fmc rfl ?_
    refine fmc rfl ?_
    refine fmc rfl ?_
    refine fmc rfl ?_
    refine fmc rfl ?_
    refine fmc rfl ?_
    refine fmc rfl ?_
    refine fmc rfl ?_
    refine fmc rfl ?_
    refine fmc rfl ?_
    refine fmc rfl ?_
    refine fmc rfl ?_
    refine fmc rfl ?_
    refine fmc rfl ?_
    exact fmz
