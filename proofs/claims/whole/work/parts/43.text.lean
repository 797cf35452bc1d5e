/-! THE TEXT, as a recursive descent; the two stacks are the same -/
def tx (T : List Nat) (i : Nat) : Nat := T.getD i 200
abbrev PR : Type := Nat × Option (List Nat)
def p_b {α β : Type} (x : Nat × Option α) (g : Nat → α → Nat × Option β) : Nat × Option β := match x with
  | (q, none) => (q, none)
  | (q, some a) => g q a
theorem p_b0 {α β : Type} {q : Nat} {g : Nat → α → Nat × Option β} : p_b (q, none) g = (q, none) := rfl
theorem p_b1 {α β : Type} {q : Nat} {a : α} {g : Nat → α → Nat × Option β} : p_b (q, some a) g = g q a := rfl
def dg (c : Nat) : Bool := decide (48 ≤ c ∧ c ≤ 57)
def p_num (T : List Nat) (i : Nat) : Nat × Option Nat := if dg (tx T i) = true then (if dg (tx T (i + 1)) = true then (i + 2, some (10 * (tx T i - 48) + (tx T (i + 1) - 48))) else (i + 1, some (tx T i - 48))) else (i, none)
def p_le (c : Nat) : Option Nat := if c = 97 then some 0 else if c = 98 then some 1 else if c = 102 then some 2 else if c = 100 then some 3 else if c = 101 then some 4 else if c = 121 then some 5 else none
def p_let (T : List Nat) (i : Nat) : Nat × Option Nat := (if (p_le (tx T i)).isSome = true then i + 1 else i, p_le (tx T i))
def p_sgn (T : List Nat) (i : Nat) : Nat × Option Nat := if 60 ≤ tx T i ∧ tx T i ≤ 62 then (i + 1, some (tx T i - 60)) else (i, none)
def p_tst (T : List Nat) (i : Nat) : PR := p_b (p_let T i) (fun q f => p_b (p_sgn T q) (fun q2 s => p_b (p_num T q2) (fun q3 d => (q3, some [300 * f + 100 * s + d + 3]))))
def p_ch (T : List Nat) (c i : Nat) : Nat × Option Nat := if tx T i = c then (i + 1, some 0) else (i, none)
def p_lp (T : List Nat) (sep op : Nat) (f : Nat → PR) : Nat → Nat → List Nat → PR
  | 0, i, ks => (i, some ks)
  | n + 1, i, ks => if tx T i = sep then p_b (f (i + 1)) (fun q k2 => p_lp T sep op f n q (ks ++ k2 ++ [op])) else (i, some ks)
def p_sq (T : List Nat) (sep op : Nat) (f : Nat → PR) (i : Nat) : PR := p_b (f i) (fun q ks => p_lp T sep op f 100 q ks)
def p_F (T : List Nat) : Nat → Nat → PR
  | 0, i => p_tst T i
  | r + 1, i => if tx T i = 33 then p_b (p_F T r (i + 1)) (fun q ks => (q, some (ks ++ [0])))
    else if tx T i = 40 then p_b (p_sq T 124 2 (p_sq T 38 1 (p_F T r)) (i + 1)) (fun q ks => if tx T q = 41 then (q + 1, some ks) else (q, none))
    else p_tst T i
def p_E (T : List Nat) (r i : Nat) : PR := p_sq T 124 2 (p_sq T 38 1 (p_F T r)) i
def p_str (T : List Nat) : List Nat → Nat → Nat × Option Nat
  | [], i => (i, some 0)
  | c :: l, i => if tx T i = c then p_str T l (i + 1) else (i, none)
def p_wd (T : List Nat) (i : Nat) : Nat := if tx T i = 119 then 0 else if tx T i = 109 then 1 else 2
def w_str : Nat → List Nat
  | 0 => [119, 97, 110, 116, 32]
  | 1 => [109, 97, 107, 101, 32]
  | _ => [98, 114, 101, 97, 107, 32]
def p_cl (T : List Nat) (i : Nat) : Nat × Option (Nat × Nat × List Nat) := p_b (p_str T (w_str (p_wd T i)) i) (fun q _ => p_b (p_num T q) (fun q2 n => p_b (p_ch T 32 q2) (fun q3 _ => p_b (p_E T 4 q3) (fun q4 ks => (q4, some (p_wd T i, n, ks))))))
def p_cs (T : List Nat) : Nat → Nat → CLS → Nat × Option CLS
  | 0, i, _ => (i, none)
  | n + 1, i, acc => p_b (p_cl T i) (fun q c => if q = T.length then (q, some (acc ++ [c])) else if n = 0 then (q, none) else if tx T q = 59 then p_cs T n (q + 1) (acc ++ [c]) else (q, none))
/-! bounds -/
theorem tx_ge {T : List Nat} {i : Nat} (h : T.length ≤ i) : tx T i = 200 := by
  unfold tx; rw [List.getD_eq_getElem?_getD, List.getElem?_eq_none h]; rfl
theorem tx_lt {T : List Nat} {i : Nat} (h : tx T i ≠ 200) : i < T.length := Nat.lt_of_not_le (fun z => h (tx_ge z))
theorem tx_s {T : List Nat} {i c : Nat} (h : T[i]? = some c) : tx T i = c := by
  unfold tx; rw [List.getD_eq_getElem?_getD, h]; rfl
/-- what a part of the text's reading keeps: it goes on, stays inside; each step costs a byte; one more waits -/
def PP (T : List Nat) (f : Nat → PR) (d : Nat) : Prop := ∀ i, i ≤ T.length → (f i).1 ≤ T.length ∧ i ≤ (f i).1 ∧ ∀ ks, (f i).2 = some ks → i + ks.length ≤ (f i).1 ∧ i < (f i).1 ∧ ∀ e, e + d ≤ 29 → w_deps ks e = some (e + 1)
theorem p_num_ok {T : List Nat} {i : Nat} (h : i ≤ T.length) : (p_num T i).1 ≤ T.length ∧ i ≤ (p_num T i).1 ∧ ∀ n, (p_num T i).2 = some n → n < 100 ∧ i < (p_num T i).1 := by
  unfold p_num
  split
  · rename_i h1
    have h1' := of_decide_eq_true h1
    have := tx_lt (T := T) (i := i) (by omega)
    split
    · rename_i h2
      have h2' := of_decide_eq_true h2
      have := tx_lt (T := T) (i := i + 1) (by omega)
      refine ⟨by show i + 2 ≤ _; omega, by show i ≤ i + 2; omega, fun n hn => ?_⟩
      cases hn
      exact ⟨by omega, by show i < i + 2; omega⟩
    · refine ⟨by show i + 1 ≤ _; omega, by show i ≤ i + 1; omega, fun n hn => ?_⟩
      cases hn
      exact ⟨by omega, by show i < i + 1; omega⟩
  · exact ⟨h, Nat.le_refl _, fun n hn => by cases hn⟩
theorem p_le_ok {c f : Nat} (h : p_le c = some f) : f < 6 ∧ c ≠ 200 ∧ c ≠ 33 ∧ c ≠ 40 := by
  unfold p_le at h
  repeat' split at h
  all_goals first | (cases h; done) | (cases h; omega)
theorem p_let_ok {T : List Nat} {i : Nat} (h : i ≤ T.length) : (p_let T i).1 ≤ T.length ∧ i ≤ (p_let T i).1 ∧ ∀ n, (p_let T i).2 = some n → n < 6 ∧ i < (p_let T i).1 := by
  unfold p_let
  dsimp only
  cases e : p_le (tx T i) with
  | none => exact ⟨h, Nat.le_refl _, fun n hn => by cases hn⟩
  | some f =>
    have := p_le_ok e
    have := tx_lt this.2.1
    refine ⟨by show i + 1 ≤ _; omega, by show i ≤ i + 1; omega, fun n hn => ?_⟩
    cases hn
    exact ⟨by omega, by show i < i + 1; omega⟩
theorem p_sgn_ok {T : List Nat} {i : Nat} (h : i ≤ T.length) : (p_sgn T i).1 ≤ T.length ∧ i ≤ (p_sgn T i).1 ∧ ∀ n, (p_sgn T i).2 = some n → n < 3 ∧ i < (p_sgn T i).1 := by
  unfold p_sgn
  split
  · have := tx_lt (T := T) (i := i) (by omega)
    refine ⟨by show i + 1 ≤ _; omega, by show i ≤ i + 1; omega, fun n hn => ?_⟩
    cases hn
    exact ⟨by omega, by show i < i + 1; omega⟩
  · exact ⟨h, Nat.le_refl _, fun n hn => by cases hn⟩
theorem PP_tst (T : List Nat) : PP T (p_tst T) 0 := by
  intro i hi
  unfold p_tst
  have h1 := p_let_ok hi
  rcases e1 : p_let T i with ⟨q, _ | f⟩ <;> rw [e1] at h1
  · exact ⟨h1.1, h1.2.1, fun ks hk => by cases hk⟩
  rw [p_b1]
  have h2 := p_sgn_ok h1.1
  have f1 := h1.2.2 f rfl
  rcases e2 : p_sgn T q with ⟨q2, _ | s⟩ <;> rw [e2] at h2
  · exact ⟨h2.1, Nat.le_trans h1.2.1 h2.2.1, fun ks hk => by cases hk⟩
  rw [p_b1]
  have h3 := p_num_ok h2.1
  have f2 := h2.2.2 s rfl
  rcases e3 : p_num T q2 with ⟨q3, _ | d⟩ <;> rw [e3] at h3
  · exact ⟨h3.1, Nat.le_trans h1.2.1 (Nat.le_trans h2.2.1 h3.2.1), fun ks hk => by cases hk⟩
  have f3 := h3.2.2 d rfl
  dsimp only at h1 h2 h3 f1 f2 f3
  refine ⟨h3.1, by show i ≤ q3; omega, fun ks hk => ?_⟩
  cases hk
  refine ⟨by show i + 1 ≤ q3; omega, by show i < q3; omega, fun e he => ?_⟩
  show (w_dep (300 * f + 100 * s + d + 3) e).bind (w_deps []) = _
  have : w_dep (300 * f + 100 * s + d + 3) e = some (e + 1) := if_pos ⟨by omega, by omega⟩
  rw [this]; rfl
theorem w_deps_app : ∀ (a b : List Nat) (e : Nat), w_deps (a ++ b) e = (w_deps a e).bind (w_deps b)
  | [], b, e => rfl
  | k :: a, b, e => by
    show (w_dep k e).bind (w_deps (a ++ b)) = ((w_dep k e).bind (w_deps a)).bind (w_deps b)
    cases w_dep k e with
    | none => rfl
    | some x => exact w_deps_app a b x
theorem PP_lp {T : List Nat} {f : Nat → PR} {d sep op : Nat} (hf : PP T f d) (hs : sep ≠ 200) (ho : op = 1 ∨ op = 2) : ∀ (m q i0 : Nat) (acc : List Nat), q ≤ T.length → i0 + acc.length ≤ q → (∀ e, e + (d + 1) ≤ 29 → w_deps acc e = some (e + 1)) →
    (p_lp T sep op f m q acc).1 ≤ T.length ∧ q ≤ (p_lp T sep op f m q acc).1 ∧ ∀ ks, (p_lp T sep op f m q acc).2 = some ks → i0 + ks.length ≤ (p_lp T sep op f m q acc).1 ∧ ∀ e, e + (d + 1) ≤ 29 → w_deps ks e = some (e + 1)
  | 0, q, i0, acc, h1, h2, h3 => ⟨h1, Nat.le_refl _, fun ks hk => by cases hk; exact ⟨h2, h3⟩⟩
  | m + 1, q, i0, acc, h1, h2, h3 => by
    unfold p_lp
    split
    · rename_i hc
      have hq := tx_lt (T := T) (i := q) (by omega)
      have hg := hf (q + 1) (by omega)
      rcases e1 : f (q + 1) with ⟨q2, _ | k2⟩ <;> rw [e1] at hg
      · exact ⟨hg.1, by have := hg.2.1; show q ≤ q2; dsimp only at this; omega, fun ks hk => by cases hk⟩
      · rw [p_b1]
        have hk := hg.2.2 k2 rfl
        dsimp only at hg hk
        have r := PP_lp hf hs ho m q2 i0 (acc ++ k2 ++ [op]) hg.1 (by rw [List.length_append, List.length_append]; show _ + (_ + _ + 1) ≤ _; omega) (fun e he => by
          rw [w_deps_app, w_deps_app, h3 e he]
          show ((w_deps k2 (e + 1)).bind (w_deps [op])) = _
          rw [hk.2.2 (e + 1) (by omega)]
          show (w_dep op (e + 1 + 1)).bind (w_deps []) = _
          have : w_dep op (e + 1 + 1) = some (e + 1) := by rcases ho with rfl | rfl <;> simp [w_dep]
          rw [this]; rfl)
        exact ⟨r.1, by have := r.2.1; omega, r.2.2⟩
    · exact ⟨h1, Nat.le_refl _, fun ks hk => by cases hk; exact ⟨h2, h3⟩⟩
theorem PP_sq {T : List Nat} {f : Nat → PR} {d sep op : Nat} (hf : PP T f d) (hs : sep ≠ 200) (ho : op = 1 ∨ op = 2) : PP T (p_sq T sep op f) (d + 1) := by
  intro i hi
  unfold p_sq
  have hg := hf i hi
  rcases e1 : f i with ⟨q, _ | ks⟩ <;> rw [e1] at hg
  · exact ⟨hg.1, hg.2.1, fun ks hk => by cases hk⟩
  · rw [p_b1]
    have hk := hg.2.2 ks rfl
    dsimp only at hg hk
    have r := PP_lp hf hs ho 100 q i ks hg.1 hk.1 (fun e he => hk.2.2 e (by omega))
    refine ⟨r.1, by have := r.2.1; omega, fun ks2 hk2 => ⟨(r.2.2 ks2 hk2).1, by have := r.2.1; omega, (r.2.2 ks2 hk2).2⟩⟩
theorem PP_F (T : List Nat) : ∀ r, PP T (p_F T r) (2 * r)
  | 0 => PP_tst T
  | r + 1 => by
    intro i hi
    unfold p_F
    split
    · rename_i hc
      have hq := tx_lt (T := T) (i := i) (by omega)
      have hg := PP_F T r (i + 1) (by omega)
      rcases e1 : p_F T r (i + 1) with ⟨q, _ | ks⟩ <;> rw [e1] at hg
      · exact ⟨hg.1, by have := hg.2.1; show i ≤ q; dsimp only at this; omega, fun ks hk => by cases hk⟩
      · have hk := hg.2.2 ks rfl
        dsimp only at hg hk
        refine ⟨hg.1, by show i ≤ q; omega, fun k2 hk2 => ?_⟩
        cases hk2
        refine ⟨by rw [List.length_append]; show i + (_ + 1) ≤ q; omega, by show i < q; omega, fun e he => ?_⟩
        rw [w_deps_app, hk.2.2 e (by omega)]
        show (w_dep 0 (e + 1)).bind (w_deps []) = _
        have : w_dep 0 (e + 1) = some (e + 1) := by simp [w_dep]
        rw [this]; rfl
    · split
      · rename_i hc
        have hq := tx_lt (T := T) (i := i) (by omega)
        have hg := PP_sq (PP_sq (PP_F T r) (sep := 38) (op := 1) (by decide) (Or.inl rfl)) (sep := 124) (op := 2) (by decide) (Or.inr rfl) (i + 1) (by omega)
        rcases e1 : p_sq T 124 2 (p_sq T 38 1 (p_F T r)) (i + 1) with ⟨q, _ | ks⟩ <;> rw [e1] at hg
        · exact ⟨hg.1, by have := hg.2.1; show i ≤ q; dsimp only at this; omega, fun ks hk => by cases hk⟩
        · rw [p_b1]
          have hk := hg.2.2 ks rfl
          dsimp only at hg hk
          split
          · have := tx_lt (T := T) (i := q) (by omega)
            refine ⟨by show q + 1 ≤ _; omega, by show i ≤ q + 1; omega, fun k2 hk2 => ?_⟩
            cases hk2
            exact ⟨by show _ ≤ q + 1; omega, by show i < q + 1; omega, fun e he => hk.2.2 e (by omega)⟩
          · exact ⟨hg.1, by show i ≤ q; omega, fun k2 hk2 => by cases hk2⟩
      · have := PP_tst T i hi
        exact ⟨this.1, this.2.1, fun ks hk => ⟨(this.2.2 ks hk).1, (this.2.2 ks hk).2.1, fun e he => (this.2.2 ks hk).2.2 e (by omega)⟩⟩
theorem PP_E (T : List Nat) (r : Nat) : PP T (p_E T r) (2 * r + 2) := PP_sq (PP_sq (PP_F T r) (by decide) (Or.inl rfl)) (by decide) (Or.inr rfl)
/-! the two stacks -/
def opens : List Nat → Nat
  | [] => 0
  | c :: S => opens S + if c = 33 ∨ c = 40 then 1 else 0
def x_wh : List Nat → List Nat → List Nat × List Nat
  | [], ks => ([], ks)
  | c :: S, ks => if c = 33 then x_wh S (ks ++ [0]) else (c :: S, ks)
def x_st (s : Nat) : List Nat → List Nat → List Nat × List Nat
  | [], ks => ([], ks)
  | c :: S, ks => if c = 38 then x_st s S (ks ++ [1]) else if c = 124 ∧ s ≠ 38 then x_st s S (ks ++ [2]) else (c :: S, ks)
def rm (T : List Nat) : Nat → Bool → Nat → List Nat → List Nat → PR
  | 0, _, i, _, _ => (i, none)
  | n + 1, true, i, S, ks => if tx T i = 33 ∨ tx T i = 40 then (if opens S = 4 then (i, none) else rm T n true (i + 1) (tx T i :: S) ks) else p_b (p_tst T i) (fun q t => rm T n false q (x_wh S (ks ++ t)).1 (x_wh S (ks ++ t)).2)
  | n + 1, false, i, S, ks => if tx T i = 38 ∨ tx T i = 124 then rm T n true (i + 1) (tx T i :: (x_st (tx T i) S ks).1) (x_st (tx T i) S ks).2
    else if (x_st 124 S ks).1 = [] then (i, some (x_st 124 S ks).2) else if tx T i = 41 then rm T n false (i + 1) (x_wh (x_st 124 S ks).1.tail (x_st 124 S ks).2).1 (x_wh (x_st 124 S ks).1.tail (x_st 124 S ks).2).2 else (i, none)
theorem x_mix : ∀ (S e : List Nat), x_st 124 S e = x_st 124 (x_st 38 S e).1 (x_st 38 S e).2
  | [], e => rfl
  | c :: S, e => by
    by_cases h : c = 38
    · have e1 : ∀ s, x_st s (c :: S) e = x_st s S (e ++ [1]) := fun s => if_pos h
      rw [e1, e1]; exact x_mix S _
    · have e1 : x_st 38 (c :: S) e = (c :: S, e) := (if_neg h).trans (if_neg (fun z => z.2 rfl))
      rw [e1]
def hd_ok (S : List Nat) : Prop := ∀ c, S.head? = some c → c ≠ 33 ∧ c ≠ 38
theorem x_wh_id {S ks : List Nat} (h : hd_ok S) : x_wh S ks = (S, ks) := by
  cases S with
  | nil => rfl
  | cons c S => exact if_neg (h c rfl).1
theorem x_st_id {S ks : List Nat} (h : hd_ok S) : x_st 38 S ks = (S, ks) := by
  cases S with
  | nil => rfl
  | cons c S => exact (if_neg (h c rfl).2).trans (if_neg (fun z => z.2 rfl))
def RG (T : List Nat) (Z : PR) (q : Nat) (S ks : List Nat) : Prop := ∀ n, T.length < n + q → rm T n false q S ks = Z
def LF (T : List Nat) (r : Nat) : Prop := ∀ (n i : Nat) (S ks : List Nat) (Z : PR), T.length < n + i → i ≤ T.length → opens S + r = 4 → (∀ q, p_F T r i = (q, none) → Z = (q, none)) → (∀ q k2, p_F T r i = (q, some k2) → i < q → q ≤ T.length → RG T Z q (x_wh S (ks ++ k2)).1 (x_wh S (ks ++ k2)).2) → rm T n true i S ks = Z
theorem LB_loop {T : List Nat} {r : Nat} (hF : LF T r) {S ks : List Nat} {Z : PR} (hS : hd_ok S) (ho : opens S + r = 4) : ∀ (m q : Nat) (acc S1 e : List Nat), T.length ≤ m + q → q ≤ T.length → x_st 38 S1 e = (S, ks ++ acc) →
    (∀ q', p_lp T 38 1 (p_F T r) m q acc = (q', none) → Z = (q', none)) → (∀ q' k2, p_lp T 38 1 (p_F T r) m q acc = (q', some k2) → q ≤ q' → q' ≤ T.length → tx T q' ≠ 38 → ∀ S2 e2, x_st 38 S2 e2 = (S, ks ++ k2) → RG T Z q' S2 e2) → RG T Z q S1 e
  | 0, q, acc, S1, e, h1, h2, h3, h4, h5 => h5 q acc rfl (Nat.le_refl _) h2 (by rw [tx_ge (by omega)]; decide) S1 e h3
  | m + 1, q, acc, S1, e, h1, h2, h3, h4, h5 => by
    unfold p_lp at h4 h5
    by_cases hc : tx T q = 38
    · rw [if_pos hc] at h4 h5
      have hq := tx_lt (T := T) (i := q) (by omega)
      intro n hn
      cases n with
      | zero => omega
      | succ n =>
        have e1 : rm T (n + 1) false q S1 e = rm T n true (q + 1) (tx T q :: (x_st (tx T q) S1 e).1) (x_st (tx T q) S1 e).2 := if_pos (Or.inl hc)
        rw [e1, hc, h3]
        refine hF n (q + 1) (38 :: S) (ks ++ acc) Z (by omega) (by omega) ho (fun q' hq' => h4 q' (by rw [hq']; rfl)) (fun q' k2 hq' hlt hle => ?_)
        have e2 : x_wh (38 :: S) (ks ++ acc ++ k2) = (38 :: S, ks ++ acc ++ k2) := rfl
        rw [e2]
        rw [hq'] at h4 h5
        refine LB_loop hF hS ho m q' (acc ++ k2 ++ [1]) (38 :: S) (ks ++ acc ++ k2) (by omega) hle ?_ h4 (fun q2 k3 g1 g2 g3 g4 => h5 q2 k3 g1 (by omega) g3 g4)
        show x_st 38 S (ks ++ acc ++ k2 ++ [1]) = _
        rw [x_st_id hS]
        simp only [List.append_assoc]
    · rw [if_neg hc] at h4 h5
      exact h5 q acc rfl (Nat.le_refl _) h2 hc S1 e h3
theorem LB_of {T : List Nat} (hT : T.length ≤ 100) {r : Nat} (hF : LF T r) (n i : Nat) (S ks : List Nat) (Z : PR) (h1 : T.length < n + i) (h2 : i ≤ T.length) (ho : opens S + r = 4) (hS : hd_ok S) (h4 : ∀ q, p_sq T 38 1 (p_F T r) i = (q, none) → Z = (q, none))
    (h5 : ∀ q k2, p_sq T 38 1 (p_F T r) i = (q, some k2) → i < q → q ≤ T.length → tx T q ≠ 38 → ∀ S1 e, x_st 38 S1 e = (S, ks ++ k2) → RG T Z q S1 e) : rm T n true i S ks = Z := by
  unfold p_sq at h4 h5
  refine hF n i S ks Z h1 h2 ho (fun q hq => h4 q (by rw [hq]; rfl)) (fun q k2 hq hlt hle => ?_)
  rw [hq] at h4 h5
  rw [x_wh_id hS]
  exact LB_loop hF hS ho 100 q k2 S (ks ++ k2) (by omega) hle (x_st_id hS) h4 (fun q' k3 g1 g2 g3 g4 => h5 q' k3 g1 (by omega) g3 g4)
theorem LE_loop {T : List Nat} (hT : T.length ≤ 100) {r : Nat} (hF : LF T r) {S ks : List Nat} {Z : PR} (hS : hd_ok S) (h124 : S.head? ≠ some 124) (ho : opens S + r = 4) : ∀ (m q : Nat) (acc S1 e : List Nat), T.length ≤ m + q → q ≤ T.length → tx T q ≠ 38 → x_st 124 S1 e = (S, ks ++ acc) →
    (∀ q', p_lp T 124 2 (p_sq T 38 1 (p_F T r)) m q acc = (q', none) → Z = (q', none)) → (∀ q' k2, p_lp T 124 2 (p_sq T 38 1 (p_F T r)) m q acc = (q', some k2) → q ≤ q' → q' ≤ T.length → tx T q' ≠ 38 → tx T q' ≠ 124 → ∀ S2 e2, x_st 124 S2 e2 = (S, ks ++ k2) → RG T Z q' S2 e2) → RG T Z q S1 e
  | 0, q, acc, S1, e, h1, h2, hq38, h3, h4, h5 => h5 q acc rfl (Nat.le_refl _) h2 hq38 (by rw [tx_ge (by omega)]; decide) S1 e h3
  | m + 1, q, acc, S1, e, h1, h2, hq38, h3, h4, h5 => by
    unfold p_lp at h4 h5
    by_cases hc : tx T q = 124
    · rw [if_pos hc] at h4 h5
      have hq := tx_lt (T := T) (i := q) (by omega)
      intro n hn
      cases n with
      | zero => omega
      | succ n =>
        have e1 : rm T (n + 1) false q S1 e = rm T n true (q + 1) (tx T q :: (x_st (tx T q) S1 e).1) (x_st (tx T q) S1 e).2 := if_pos (Or.inr hc)
        rw [e1, hc, h3]
        refine LB_of hT hF n (q + 1) (124 :: S) (ks ++ acc) Z (by omega) (by omega) ho (fun c hc2 => by cases hc2; decide) (fun q' hq' => h4 q' (by rw [hq']; rfl)) (fun q' k2 hq' hlt hle hne S2 e2 he2 => ?_)
        rw [hq'] at h4 h5
        refine LE_loop hT hF hS h124 ho m q' (acc ++ k2 ++ [2]) S2 e2 (by omega) hle hne ?_ h4 (fun q2 k3 g1 g2 g3 g4 => h5 q2 k3 g1 (by omega) g3 g4)
        rw [x_mix, he2]
        show x_st 124 S (ks ++ acc ++ k2 ++ [2]) = _
        have e3 : ∀ z, x_st 124 S z = (S, z) := fun z => by
          cases S with
          | nil => rfl
          | cons c S => exact (if_neg (hS c rfl).2).trans (if_neg (fun y => h124 (by rw [y.1]; rfl)))
        rw [e3]
        simp only [List.append_assoc]
    · rw [if_neg hc] at h4 h5
      exact h5 q acc rfl (Nat.le_refl _) h2 hq38 hc S1 e h3
theorem LE_of {T : List Nat} (hT : T.length ≤ 100) {r : Nat} (hF : LF T r) (n i : Nat) (S ks : List Nat) (Z : PR) (h1 : T.length < n + i) (h2 : i ≤ T.length) (ho : opens S + r = 4) (hS : hd_ok S) (h124 : S.head? ≠ some 124) (h4 : ∀ q, p_E T r i = (q, none) → Z = (q, none))
    (h5 : ∀ q k2, p_E T r i = (q, some k2) → i < q → q ≤ T.length → tx T q ≠ 38 → tx T q ≠ 124 → ∀ S1 e, x_st 124 S1 e = (S, ks ++ k2) → RG T Z q S1 e) : rm T n true i S ks = Z := by
  have e0 : p_E T r i = p_b (p_sq T 38 1 (p_F T r) i) (fun q ks => p_lp T 124 2 (p_sq T 38 1 (p_F T r)) 100 q ks) := rfl
  rw [e0] at h4 h5
  refine LB_of hT hF n i S ks Z h1 h2 ho hS (fun q hq => h4 q (by rw [hq]; rfl)) (fun q k2 hq hlt hle hne S1 e he => ?_)
  rw [hq] at h4 h5
  have e3 : ∀ z, x_st 124 S z = (S, z) := fun z => by
    cases S with
    | nil => rfl
    | cons c S => exact (if_neg (hS c rfl).2).trans (if_neg (fun y => h124 (by rw [y.1]; rfl)))
  exact LE_loop hT hF hS h124 ho 100 q k2 S1 e (by omega) hle hne (by rw [x_mix, he]; exact e3 _) h4 (fun q' k3 g1 g2 g3 g4 => h5 q' k3 g1 (by omega) g3 g4)
theorem LF_tst {T : List Nat} {n i : Nat} {S ks : List Nat} {Z : PR} (h1 : T.length < n + 1 + i) (h2 : i ≤ T.length) (h4 : ∀ q, p_tst T i = (q, none) → Z = (q, none)) (h5 : ∀ q k2, p_tst T i = (q, some k2) → i < q → q ≤ T.length → RG T Z q (x_wh S (ks ++ k2)).1 (x_wh S (ks ++ k2)).2) :
    p_b (p_tst T i) (fun q t => rm T n false q (x_wh S (ks ++ t)).1 (x_wh S (ks ++ t)).2) = Z := by
  have hp := PP_tst T i h2
  rcases e : p_tst T i with ⟨q, _ | t⟩
  · exact (h4 q e).symm
  · rw [e] at hp
    have hk := hp.2.2 t rfl
    exact h5 q t e hk.2.1 hp.1 n (by have := hk.2.1; dsimp only at this; omega)
theorem p_tst_no {T : List Nat} {i : Nat} (h : tx T i = 33 ∨ tx T i = 40) : p_tst T i = (i, none) := by
  have e : p_le (tx T i) = none := by
    cases e : p_le (tx T i) with
    | none => rfl
    | some f => have := p_le_ok e; omega
  have e1 : p_let T i = (i, none) := by unfold p_let; rw [e]; rfl
  unfold p_tst
  rw [e1]; rfl
theorem LF_all {T : List Nat} (hT : T.length ≤ 100) : ∀ r, LF T r
  | 0, n, i, S, ks, Z, h1, h2, ho, h4, h5 => by
    cases n with
    | zero => omega
    | succ n =>
      unfold rm
      by_cases hc : tx T i = 33 ∨ tx T i = 40
      · rw [if_pos hc, if_pos (by omega)]
        exact (h4 i (p_tst_no hc)).symm
      · rw [if_neg hc]
        exact LF_tst h1 h2 h4 h5
  | r + 1, n, i, S, ks, Z, h1, h2, ho, h4, h5 => by
    cases n with
    | zero => omega
    | succ n =>
      unfold rm
      unfold p_F at h4 h5
      by_cases c1 : tx T i = 33
      · have hq := tx_lt (T := T) (i := i) (by omega)
        rw [if_pos (Or.inl c1), if_neg (by omega), c1]
        rw [if_pos c1] at h4 h5
        refine LF_all hT r n (i + 1) (33 :: S) ks Z (by omega) (by omega) (by show opens S + 1 + r = 4; omega) (fun q hq => h4 q (by rw [hq]; rfl)) (fun q k2 hq hlt hle => ?_)
        have e2 : x_wh (33 :: S) (ks ++ k2) = x_wh S (ks ++ k2 ++ [0]) := rfl
        rw [e2, List.append_assoc]
        exact h5 q (k2 ++ [0]) (by rw [hq]; rfl) (by omega) hle
      · by_cases c2 : tx T i = 40
        · have hq := tx_lt (T := T) (i := i) (by omega)
          rw [if_pos (Or.inr c2), if_neg (by omega), c2]
          rw [if_neg c1, if_pos c2] at h4 h5
          refine LE_of hT (LF_all hT r) n (i + 1) (40 :: S) ks Z (by omega) (by omega) (by show opens S + 1 + r = 4; omega) (fun c hc2 => by cases hc2; decide) (fun z => by cases z) (fun q hq => h4 q (by rw [p_E] at hq; rw [hq]; rfl)) (fun q k2 hq hlt hle n1 n2 S1 e he => ?_)
          rw [p_E] at hq
          rw [hq, p_b1] at h4 h5
          intro n' hn'
          cases n' with
          | zero => omega
          | succ n' =>
            have e1 : rm T (n' + 1) false q S1 e = if (x_st 124 S1 e).1 = [] then (q, some (x_st 124 S1 e).2) else if tx T q = 41 then rm T n' false (q + 1) (x_wh (x_st 124 S1 e).1.tail (x_st 124 S1 e).2).1 (x_wh (x_st 124 S1 e).1.tail (x_st 124 S1 e).2).2 else (q, none) := if_neg (by omega)
            rw [e1, he, if_neg (by intro z; cases z)]
            by_cases c3 : tx T q = 41
            · have hq2 := tx_lt (T := T) (i := q) (by omega)
              rw [if_pos c3]
              rw [if_pos c3] at h5
              exact h5 (q + 1) k2 rfl (by omega) (by omega) n' (by omega)
            · rw [if_neg c3]
              rw [if_neg c3] at h4
              exact (h4 q rfl).symm
        · rw [if_neg (by omega)]
          rw [if_neg c1, if_neg c2] at h4 h5
          exact LF_tst h1 h2 h4 h5
/-- the two stacks read what the descent reads -/
theorem rm_E {T : List Nat} (hT : T.length ≤ 100) {n i : Nat} (h1 : T.length < n + i) (h2 : i ≤ T.length) : rm T n true i [] [] = p_E T 4 i := by
  refine LE_of hT (LF_all hT 4) n i [] [] _ h1 h2 rfl (fun c hc => by cases hc) (by decide) (fun q hq => hq) (fun q k2 hq hlt hle n1 n2 S1 e he => ?_)
  intro n' hn'
  cases n' with
  | zero => omega
  | succ n' =>
    have e1 : rm T (n' + 1) false q S1 e = if (x_st 124 S1 e).1 = [] then (q, some (x_st 124 S1 e).2) else if tx T q = 41 then rm T n' false (q + 1) (x_wh (x_st 124 S1 e).1.tail (x_st 124 S1 e).2).1 (x_wh (x_st 124 S1 e).1.tail (x_st 124 S1 e).2).2 else (q, none) := if_neg (by omega)
    rw [e1, he, if_pos rfl, hq]; rfl
/-! clauses -/
theorem p_str_ok {T : List Nat} : ∀ (l : List Nat) (i : Nat), (∀ c ∈ l, c < 200) → i ≤ T.length → (p_str T l i).1 ≤ T.length ∧ i ≤ (p_str T l i).1
  | [], i, _, h => ⟨h, Nat.le_refl _⟩
  | c :: l, i, hl, h => by
    unfold p_str
    split
    · rename_i hc
      have h1 := hl c List.mem_cons_self
      have := tx_lt (T := T) (i := i) (by omega)
      have r := p_str_ok (T := T) l (i + 1) (fun c hc => hl c (List.mem_cons_of_mem _ hc)) (by omega)
      exact ⟨r.1, by omega⟩
    · exact ⟨h, Nat.le_refl _⟩
theorem w_str_lt : ∀ w, ∀ c ∈ w_str w, c < 200
  | 0 => by decide
  | 1 => by decide
  | n + 2 => by show ∀ c ∈ [98, 114, 101, 97, 107, 32], c < 200; decide
theorem p_wd_lt (T : List Nat) (i : Nat) : p_wd T i < 3 := by
  unfold p_wd
  split
  · decide
  · split <;> decide
theorem p_cl_ok {T : List Nat} (hT : T.length ≤ 100) {i : Nat} (h : i ≤ T.length) : (p_cl T i).1 ≤ T.length ∧ i ≤ (p_cl T i).1 ∧ ∀ c, (p_cl T i).2 = some c → w_okc c ∧ i + c.2.2.length ≤ (p_cl T i).1 ∧ i < (p_cl T i).1 := by
  unfold p_cl
  have h1 := p_str_ok (w_str (p_wd T i)) i (w_str_lt _) h
  rcases e1 : p_str T (w_str (p_wd T i)) i with ⟨q, _ | f⟩ <;> rw [e1] at h1
  · exact ⟨h1.1, h1.2, fun c hc => by cases hc⟩
  rw [p_b1]
  have h2 := p_num_ok h1.1
  rcases e2 : p_num T q with ⟨q2, _ | n⟩ <;> rw [e2] at h2
  · exact ⟨h2.1, Nat.le_trans h1.2 h2.2.1, fun c hc => by cases hc⟩
  rw [p_b1]
  have f2 := h2.2.2 n rfl
  dsimp only at h1 h2 f2
  unfold p_ch
  by_cases c3 : tx T q2 = 32
  · rw [if_pos c3, p_b1]
    have := tx_lt (T := T) (i := q2) (by omega)
    have h4 := PP_E T 4 (q2 + 1) (by omega)
    rcases e4 : p_E T 4 (q2 + 1) with ⟨q4, _ | ks⟩ <;> rw [e4] at h4
    · exact ⟨h4.1, by have := h4.2.1; show i ≤ q4; dsimp only at this; omega, fun c hc => by cases hc⟩
    · have f4 := h4.2.2 ks rfl
      dsimp only at h4 f4
      refine ⟨h4.1, by show i ≤ q4; omega, fun c hc => ?_⟩
      cases hc
      exact ⟨⟨p_wd_lt T i, f2.1, by show ks.length ≤ 100; omega, f4.2.2 0 (by decide)⟩, by show i + ks.length ≤ q4; omega, by show i < q4; omega⟩
  · rw [if_neg c3]
    exact ⟨h2.1, by show i ≤ q2; omega, fun c hc => by cases hc⟩
theorem p_cs_ok {T : List Nat} (hT : T.length ≤ 100) : ∀ (n i : Nat) (acc : CLS), i ≤ T.length → (∀ c ∈ acc, w_okc c) → (p_cs T n i acc).1 ≤ T.length ∧ ∀ p, (p_cs T n i acc).2 = some p → p.length ≤ acc.length + n ∧ ∀ c ∈ p, w_okc c
  | 0, i, acc, h, ha => ⟨h, fun p hp => by cases hp⟩
  | n + 1, i, acc, h, ha => by
    unfold p_cs
    have h1 := p_cl_ok hT h
    rcases e1 : p_cl T i with ⟨q, _ | c⟩ <;> rw [e1] at h1
    · exact ⟨h1.1, fun p hp => by cases hp⟩
    rw [p_b1]
    have f1 := h1.2.2 c rfl
    have hacc : ∀ c' ∈ acc ++ [c], w_okc c' := fun c' hc' => by
      rcases List.mem_append.mp hc' with z | z
      · exact ha c' z
      · rw [List.mem_singleton.mp z]; exact f1.1
    split
    · refine ⟨h1.1, fun p hp => ?_⟩
      cases hp
      exact ⟨by rw [List.length_append]; show _ + 1 ≤ _; omega, hacc⟩
    · split
      · exact ⟨h1.1, fun p hp => by cases hp⟩
      · split
        · have := tx_lt (T := T) (i := q) (by omega)
          have r := p_cs_ok hT n (q + 1) (acc ++ [c]) (by omega) hacc
          refine ⟨r.1, fun p hp => ⟨?_, (r.2 p hp).2⟩⟩
          have := (r.2 p hp).1
          rw [List.length_append] at this
          have e : [c].length = 1 := rfl
          omega
        · exact ⟨h1.1, fun p hp => by cases hp⟩
