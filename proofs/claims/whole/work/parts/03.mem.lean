/-! THE PURE MEMORY. A run's objects and arrays have numbers (handles) in the order of their making; what they hold: ints, longs, handles, by handle and place. -/
abbrev v_TY : Type := Nat → Nat × Nat
abbrev v_MM : Type := (Nat × v_TY) × (Nat → Nat → Int32) × (Nat → Nat → Int64) × (Nat → Nat → Option Nat)
/-- what stays the same in a whole run: the classes' numbers and slots; the arrays' classes; the first address; the addresses of what was there before (statics' arrays, texts) -/
abbrev v_G : Type := va_G × (Nat → ClassId) × Nat × (Nat → Nat)
def v_ad (G : v_G) (h : Nat) : Nat := if h < 1000000 then G.2.2.1 + h else G.2.2.2 (h - 1000000)
def v_tv (G : v_G) : Value → Value
  | .ref a => .ref (v_ad G a)
  | v => v
theorem v_tv_int (G : v_G) (x : Int32) : v_tv G (.int x) = .int x := rfl
theorem v_tv_long (G : v_G) (x : Int64) : v_tv G (.long x) = .long x := rfl
theorem v_tv_ref (G : v_G) (a : Nat) : v_tv G (.ref a) = .ref (v_ad G a) := rfl
theorem v_tv_rf (G : v_G) (r : Option Nat) : v_tv G (va_rf r) = va_rf (r.map (v_ad G)) := by cases r <;> rfl
theorem v_tv_cat (G : v_G) (v : Value) : (v_tv G v).category = v.category := by cases v <;> rfl
/-- the fields of a class that are references -/
def v_fl (k : Nat) : List Bool := match k with
  | 0 => [false, false, false]
  | 1 => [false, false, false]
  | 2 => [false, false, false]
  | 3 => [false, false, false]
  | 4 => [false, false, false]
  | 5 => [false, false, true]
  | 6 => [false, false, false]
  | 7 => [false, true, false, false, true, true, true, true, false]
  | 8 => [true, false]
  | 9 => [false, false, false, true, true, true, true, true, false, true, true, false, true, true, true]
  | 10 => [false, false, false]
  | 11 => [true, true, true, false, true, false, true, false, true, true, true, true]
  | 12 => [false, false, false, true, true, true, true, true, false, false, false, false, false, true, true, true, true, true, true, true, true, false, false, false, true, true, false, false, true, false, false, false, false, true, false, false, true, true, true, true, false, false, false, false, false, false, true, true, true, true, true, true, true, true, true, false, true, true, true, true, true]
  | _ => []
def v_fs (G : v_G) (I : Nat → Nat → Int32) (R : Nat → Nat → Option Nat) (h k : Nat) : List Value := (v_fl k).mapIdx (fun j b => if b then va_rf ((R h j).map (v_ad G)) else .int (I h j))
def v_cell (G : v_G) (K : Nat × v_TY) (I : Nat → Nat → Int32) (J : Nat → Nat → Int64) (R : Nat → Nat → Option Nat) (h : Nat) : va_E :=
  if (K.2 h).1 < 13 then .inr ((K.2 h).1, v_fs G I R h (K.2 h).1)
  else if (K.2 h).1 = 15 then .inl (G.2.1 (K.2 h).1, (K.2 h).2, .inr (.inl (J h)))
  else if (K.2 h).1 < 17 then .inl (G.2.1 (K.2 h).1, (K.2 h).2, .inl (I h))
  else .inl (G.2.1 (K.2 h).1, (K.2 h).2, .inr (.inr (.inr (.inr (fun j => (R h j).map (v_ad G))))))
def v_ws (G : v_G) (M : v_MM) : va_W := (List.range M.1.1).map (fun h => (v_ad G h, v_cell G M.1 M.2.1 M.2.2.1 M.2.2.2 h))
def v_A (G : v_G) : Nat → Prop := fun q => G.2.2.1 ≤ q
abbrev v_ty (G : v_G) : List (ClassId × FieldType) := [(G.2.1 13, .byte), (G.2.1 14, .int), (G.2.1 15, .long), (G.2.1 16, .boolean), (G.2.1 17, .object "OneFriend$Person"), (G.2.1 18, .object "OneFriend$Tape")]
def v_u {α : Type} (f : Nat → Nat → α) (h k : Nat) (x : α) : Nat → Nat → α := fun a b => if a = h ∧ b = k then x else f a b
theorem v_u_same {α : Type} {f : Nat → Nat → α} {h k : Nat} {x : α} : v_u f h k x h k = x := by simp [v_u]
theorem v_u_h {α : Type} {f : Nat → Nat → α} {h k a b : Nat} {x : α} (n : a ≠ h) : v_u f h k x a b = f a b := by simp [v_u, n]
theorem v_u_k {α : Type} {f : Nat → Nat → α} {h k a b : Nat} {x : α} (n : b ≠ k) : v_u f h k x a b = f a b := by simp [v_u, n]
theorem v_ws_len (G : v_G) (M : v_MM) : (v_ws G M).length = M.1.1 := by simp [v_ws]
theorem v_ws_at {G : v_G} {M : v_MM} {h : Nat} (hh : h < M.1.1) : (v_ws G M)[h]? = some (v_ad G h, v_cell G M.1 M.2.1 M.2.2.1 M.2.2.2 h) := by
  simp [v_ws, hh]
theorem v_ws_set {G : v_G} {K : Nat × v_TY} {I I' : Nat → Nat → Int32} {J J' : Nat → Nat → Int64} {R R' : Nat → Nat → Option Nat} {h : Nat} {e : va_E} (he : v_cell G K I' J' R' h = e) (hne : ∀ a, a ≠ h → v_cell G K I' J' R' a = v_cell G K I J R a) :
    (v_ws G (K, I, J, R)).set h (v_ad G h, e) = v_ws G (K, I', J', R') := by
  subst he
  apply List.ext_getElem?
  intro i
  by_cases hi : i < K.1
  · by_cases hih : i = h
    · subst hih
      rw [List.getElem?_set_self (by simp [v_ws, hi])]
      simp [v_ws, hi]
    · rw [List.getElem?_set_ne (Ne.symm hih)]
      simp [v_ws, hi, hne i hih]
  · rw [List.getElem?_eq_none (by simp [v_ws]; omega), List.getElem?_eq_none (by simp [v_ws]; omega)]
theorem v_ad_lt {G : v_G} {h : Nat} (hh : h < 1000000) : v_ad G h = G.2.2.1 + h := by simp [v_ad, hh]
theorem v_D {G : v_G} {M : v_MM} (hn : M.1.1 ≤ 1000000) : va_D (v_A G) (v_ws G M) := by
  have key : ∀ (i : Nat) (p : Nat × va_E), (v_ws G M)[i]? = some p → i < M.1.1 ∧ p.1 = G.2.2.1 + i := by
    intro i p hp
    have hi : i < M.1.1 := by
      have := (List.getElem?_eq_some_iff.mp hp).1
      rwa [v_ws_len] at this
    rw [v_ws_at hi] at hp
    cases hp
    exact ⟨hi, v_ad_lt (by omega)⟩
  refine ⟨fun i j p q hp hq e => ?_, fun k q hq => ?_⟩
  · have h1 := key i p hp
    have h2 := key j q hq
    rw [h1.2, h2.2] at e
    omega
  · have h1 := key k q hq
    show G.2.2.1 ≤ q.1
    rw [h1.2]; omega
/-- a handle's kind and length -/
def v_is (K : Nat × v_TY) (h k n : Nat) : Prop := h < K.1 ∧ K.2 h = (k, n)
theorem v_at_obj {G : v_G} {K : Nat × v_TY} {I : Nat → Nat → Int32} {J : Nat → Nat → Int64} {R : Nat → Nat → Option Nat} {h k n : Nat} (hi : v_is K h k n) (hk : k < 13) : (v_ws G (K, I, J, R))[h]? = some (v_ad G h, .inr (k, v_fs G I R h k)) := by
  rw [v_ws_at hi.1]
  simp [v_cell, hi.2, hk]
theorem v_at_int {G : v_G} {K : Nat × v_TY} {I : Nat → Nat → Int32} {J : Nat → Nat → Int64} {R : Nat → Nat → Option Nat} {h k n : Nat} (hi : v_is K h k n) (hk : k = 13 ∨ k = 14 ∨ k = 16) : (v_ws G (K, I, J, R))[h]? = some (v_ad G h, .inl (G.2.1 k, n, .inl (I h))) := by
  rw [v_ws_at hi.1]
  rcases hk with rfl | rfl | rfl <;> simp [v_cell, hi.2]
theorem v_at_long {G : v_G} {K : Nat × v_TY} {I : Nat → Nat → Int32} {J : Nat → Nat → Int64} {R : Nat → Nat → Option Nat} {h n : Nat} (hi : v_is K h 15 n) : (v_ws G (K, I, J, R))[h]? = some (v_ad G h, .inl (G.2.1 15, n, .inr (.inl (J h)))) := by
  rw [v_ws_at hi.1]
  simp [v_cell, hi.2]
theorem v_at_ref {G : v_G} {K : Nat × v_TY} {I : Nat → Nat → Int32} {J : Nat → Nat → Int64} {R : Nat → Nat → Option Nat} {h k n : Nat} (hi : v_is K h k n) (hk : k = 17 ∨ k = 18) : (v_ws G (K, I, J, R))[h]? = some (v_ad G h, .inl (G.2.1 k, n, .inr (.inr (.inr (.inr (fun j => (R h j).map (v_ad G))))))) := by
  rw [v_ws_at hi.1]
  rcases hk with rfl | rfl <;> simp [v_cell, hi.2]
