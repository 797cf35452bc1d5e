/-! THE VIEW: people, who is there, who are friends, kinds, numbers, rows, the year, the clauses -/
abbrev VW : Type := Nat × (Nat → Bool) × (Nat → Nat → Bool) × (Nat → Nat) × (Nat → Nat) × (Nat → Nat) × Nat × List (Nat × Nat × List Nat)
abbrev w_n (w : VW) : Nat := w.1
abbrev w_h (w : VW) : Nat → Bool := w.2.1
abbrev w_a (w : VW) : Nat → Nat → Bool := w.2.2.1
abbrev w_k (w : VW) : Nat → Nat := w.2.2.2.1
abbrev w_v (w : VW) : Nat → Nat := w.2.2.2.2.1
abbrev w_r (w : VW) : Nat → Nat := w.2.2.2.2.2.1
abbrev w_y (w : VW) : Nat := w.2.2.2.2.2.2.1
abbrev w_p (w : VW) : List (Nat × Nat × List Nat) := w.2.2.2.2.2.2.2
def w_deg (w : VW) (i : Nat) : Nat := cnt (w_a w i) 7
def w_all (w : VW) (p : Nat) : Bool := al (fun o => decide (o = p) || !w_h w o || w_a w p o) (w_n w)
def w_worth (w : VW) (p : Nat) (fr : Bool) : Nat := match w_k w p with
  | 1 => 1 + w_v w p % 2
  | 2 => if fr = true then 0 else 1
  | 3 => if w_y w % (w_v w p + 2) = 0 then 0 else 1
  | 4 => if w_all w p = true then 1 + w_v w p % 2 else 0
  | 5 => if 3 < w_deg w p then 0 else if fr = true then 0 else 1
  | 6 => w_r w (4 * p + w_y w % 4)
  | _ => 1
def w_com (w : VW) (a b : Nat) : Nat := sm (fun p => if (w_a w p a && w_a w p b) = true then w_worth w p (w_a w a b) else 0) (w_n w)
/-- a test's letter's fact -/
def w_fact (w : VW) (a b f : Nat) : Nat := match f with
  | 0 => a
  | 1 => b
  | 2 => if w_a w a b = true then 1 else 0
  | 3 => w_deg w a
  | 4 => w_deg w b
  | _ => w_y w % 10
/-- a test: its letter by 300, its sign by 100, its number -/
def w_test (t : Nat) (f : Nat → Nat) : Bool := if t / 100 % 3 = 0 then decide (f (t / 300) < t % 100) else if t / 100 % 3 = 1 then decide (f (t / 300) = t % 100) else decide (t % 100 < f (t / 300))
/-- the steps, upon what waits: 0 not, 1 and, 2 or, t + 3 a test -/
def w_step (f : Nat → Nat) (k : Nat) (s : List Bool) : List Bool := match k with
  | 0 => match s with
    | b :: r => (!b) :: r
    | [] => []
  | 1 => match s with
    | b :: a :: r => (a && b) :: r
    | r => r
  | 2 => match s with
    | b :: a :: r => (a || b) :: r
    | r => r
  | t + 3 => w_test t f :: s
def w_run (f : Nat → Nat) (ks : List Nat) (s : List Bool) : List Bool := ks.foldl (fun s k => w_step f k s) s
def w_holds (f : Nat → Nat) (ks : List Nat) : Bool := (w_run f ks []).headD false
/-- how many wait behind each step; none, if too few waited -/
def w_dep (k d : Nat) : Option Nat := match k with
  | 0 => if 1 ≤ d then some d else none
  | 1 => if 2 ≤ d then some (d - 1) else none
  | 2 => if 2 ≤ d then some (d - 1) else none
  | t + 3 => if t < 1800 ∧ d < 30 then some (d + 1) else none
def w_deps : List Nat → Nat → Option Nat
  | [], d => some d
  | k :: ks, d => (w_dep k d).bind (w_deps ks)
/-- a clause as a town keeps it -/
def w_okc (c : Nat × Nat × List Nat) : Prop := c.1 < 3 ∧ c.2.1 < 100 ∧ c.2.2.length ≤ 100 ∧ w_deps c.2.2 0 = some 1
def w_okp (p : List (Nat × Nat × List Nat)) : Prop := p.length ≤ 10 ∧ ∀ c ∈ p, w_okc c
/-- the numbers of the clauses of a word that hold; 1, if there is none of that word -/
def w_sumc (f : Nat → Nat) (w : Nat) : List (Nat × Nat × List Nat) → Nat
  | [] => 0
  | c :: cs => (if c.1 = w then if w_holds f c.2.2 = true then c.2.1 else 0 else 0) + w_sumc f w cs
def w_any (w : Nat) (cs : List (Nat × Nat × List Nat)) : Bool := cs.any (fun c => decide (c.1 = w))
def w_sum (v : VW) (w a b : Nat) : Nat := if w_any w (w_p v) = true then w_sumc (w_fact v a b) w (w_p v) else 1
def w_price (v : VW) (a b : Nat) : Nat := w_sum v (if w_a v a b = true then 2 else 1) a b
def w_off (v : VW) (a b : Nat) : Nat := (w_com v a b - w_sum v 0 a b) + (w_sum v 0 a b - w_com v a b)
def w_am (v : VW) (a b : Nat) : Bool := w_h v a && w_h v b && decide (w_off v a b ≠ 0)
/-- of the pairs by their numbers -/
def w_amp (v : VW) (p : Nat) : Bool := w_am v (w_l p) (w_g p)
def w_many (v : VW) : Nat := cnt (w_amp v) (w_pr (w_n v))
/-! THE BASE: people, the year, kinds, numbers, masks of friends, rows -/
abbrev BS : Type := Nat × Nat × (Nat → Nat) × (Nat → Nat) × (Nat → Nat) × (Nat → Nat)
abbrev b_n (b : BS) : Nat := b.1
abbrev b_y (b : BS) : Nat := b.2.1
abbrev b_k (b : BS) : Nat → Nat := b.2.2.1
abbrev b_v (b : BS) : Nat → Nat := b.2.2.2.1
abbrev b_m (b : BS) : Nat → Nat := b.2.2.2.2.1
abbrev b_r (b : BS) : Nat → Nat := b.2.2.2.2.2
/-- the view of a base without the one of number g (9: nobody is away) -/
def vw (b : BS) (g : Nat) (p : List (Nat × Nat × List Nat)) : VW := (b_n b, fun j => decide (j ≠ g), fun i j => (b_m b i).testBit j && decide (i ≠ g) && decide (j ≠ g), b_k b, b_v b, b_r b, b_y b, p)
theorem vw_a {b : BS} {g i j : Nat} {p : List (Nat × Nat × List Nat)} : w_a (vw b g p) i j = ((b_m b i).testBit j && decide (i ≠ g) && decide (j ≠ g)) := rfl
theorem vw_h {b : BS} {g j : Nat} {p : List (Nat × Nat × List Nat)} : w_h (vw b g p) j = decide (j ≠ g) := rfl
theorem vw_n {b : BS} {g : Nat} {p : List (Nat × Nat × List Nat)} : w_n (vw b g p) = b_n b := rfl
theorem vw_k {b : BS} {g i : Nat} {p : List (Nat × Nat × List Nat)} : w_k (vw b g p) i = b_k b i := rfl
theorem vw_v {b : BS} {g i : Nat} {p : List (Nat × Nat × List Nat)} : w_v (vw b g p) i = b_v b i := rfl
theorem vw_r {b : BS} {g i : Nat} {p : List (Nat × Nat × List Nat)} : w_r (vw b g p) i = b_r b i := rfl
theorem vw_y {b : BS} {g : Nat} {p : List (Nat × Nat × List Nat)} : w_y (vw b g p) = b_y b := rfl
theorem vw_p {b : BS} {g : Nat} {p : List (Nat × Nat × List Nat)} : w_p (vw b g p) = p := rfl
def VB (b : BS) : Prop := b_n b ≤ 6 ∧ b_y b < 2000 ∧ (∀ i, b_k b i ≤ 6) ∧ (∀ i, b_v b i ≤ 9) ∧ (∀ i, b_m b i < 64) ∧ (∀ j, b_r b j ≤ 3) ∧ (∀ i j, (b_m b i).testBit j = (b_m b j).testBit i) ∧ (∀ i, (b_m b i).testBit i = false) ∧ ∀ i j, b_n b ≤ j → (b_m b i).testBit j = false
/-! THE REFERENCE's memory, as a base, one away, clauses -/
def MB (I : Nat → Nat → Int32) (b : BS) : Prop := I 55 0 = nI (b_n b) ∧ I 55 1 = nI (b_y b) ∧ (∀ i, i < 7 → I 56 i = nI (b_k b i)) ∧ (∀ i, i < 7 → I 57 i = nI (b_v b i)) ∧ (∀ i, i < 7 → I 58 i = nI (b_m b i)) ∧ ∀ j, j < 28 → I 59 j = nI (b_r b j)
def MG (I : Nat → Nat → Int32) (g : Nat) : Prop := (g < 7 ∧ I 55 2 = nI g) ∨ (g = 9 ∧ I 55 2 = -1)
/-- a step as the reference writes it -/
def m_tok (k : Nat) : Int32 := match k with
  | 0 => -33
  | 1 => -38
  | 2 => -124
  | t + 3 => nI (1000 * (t / 300) + 100 * (t / 100 % 3) + t % 100)
/-- the clauses of town f -/
def MPt (I : Nat → Nat → Int32) (f : Nat) (p : List (Nat × Nat × List Nat)) : Prop := f < 6 ∧ w_okp p ∧ I 62 f = nI p.length ∧ ∀ (c : Nat) (q : Nat × Nat × List Nat), p[c]? = some q → I 63 (10 * f + c) = nI q.1 ∧ I 64 (10 * f + c) = nI q.2.1 ∧
  ∃ s : Nat, I 65 (10 * f + c) = nI s ∧ I 66 (10 * f + c) = nI (s + q.2.2.length) ∧ s + q.2.2.length ≤ 100 * f + 100 ∧ ∀ (j k : Nat), q.2.2[j]? = some k → I 67 (s + j) = m_tok k
def MP (I : Nat → Nat → Int32) (p : List (Nat × Nat × List Nat)) : Prop := (p = [] ∧ I 55 9 = -1) ∨ ∃ f, I 55 9 = nI f ∧ MPt I f p
def MV (I : Nat → Nat → Int32) (b : BS) (g : Nat) : Prop := MB I b ∧ VB b ∧ MG I g
def MW (I : Nat → Nat → Int32) (b : BS) (g : Nat) (p : List (Nat × Nat × List Nat)) : Prop := MV I b g ∧ MP I p
section MVS
variable {I : Nat → Nat → Int32} {b : BS} {g : Nat}
theorem MVn (h : MV I b g) : I 55 0 = nI (b_n b) := h.1.1
theorem MVy (h : MV I b g) : I 55 1 = nI (b_y b) := h.1.2.1
theorem MVk (h : MV I b g) {i : Nat} (hi : i < 7) : I 56 i = nI (b_k b i) := h.1.2.2.1 i hi
theorem MVv (h : MV I b g) {i : Nat} (hi : i < 7) : I 57 i = nI (b_v b i) := h.1.2.2.2.1 i hi
theorem MVm (h : MV I b g) {i : Nat} (hi : i < 7) : I 58 i = nI (b_m b i) := h.1.2.2.2.2.1 i hi
theorem MVr (h : MV I b g) {j : Nat} (hj : j < 28) : I 59 j = nI (b_r b j) := h.1.2.2.2.2.2 j hj
theorem VBn (h : MV I b g) : b_n b ≤ 6 := h.2.1.1
theorem VBy (h : MV I b g) : b_y b < 2000 := h.2.1.2.1
theorem VBk (h : MV I b g) (i : Nat) : b_k b i ≤ 6 := h.2.1.2.2.1 i
theorem VBv (h : MV I b g) (i : Nat) : b_v b i ≤ 9 := h.2.1.2.2.2.1 i
theorem VBm (h : MV I b g) (i : Nat) : b_m b i < 64 := h.2.1.2.2.2.2.1 i
theorem VBr (h : MV I b g) (j : Nat) : b_r b j ≤ 3 := h.2.1.2.2.2.2.2.1 j
theorem MGeq (h : MG I g) {o : Nat} (ho : o < 7) : nI o = I 55 2 ↔ o = g := by
  rcases h with ⟨h1, h2⟩ | ⟨h1, h2⟩
  · rw [h2]; exact nI_eq (by omega) (by omega)
  · rw [h2, h1]
    constructor
    · intro q
      exact absurd q ((show ∀ o, o < 7 → ¬ nI o = -1 by decide) o ho)
    · intro q; omega
end MVS
theorem cnt_c {f g : Nat → Bool} : ∀ {n : Nat}, (∀ i, i < n → f i = g i) → cnt f n = cnt g n
  | 0, _ => rfl
  | n + 1, h => by
    show cnt f n + _ = cnt g n + _
    rw [cnt_c (fun i hi => h i (Nat.lt_succ_of_lt hi)), h n (Nat.lt_succ_self n)]
theorem sm_c {f g : Nat → Nat} : ∀ {n : Nat}, (∀ i, i < n → f i = g i) → sm f n = sm g n
  | 0, _ => rfl
  | n + 1, h => by
    show sm f n + _ = sm g n + _
    rw [sm_c (fun i hi => h i (Nat.lt_succ_of_lt hi)), h n (Nat.lt_succ_self n)]
theorem al_c {f g : Nat → Bool} : ∀ {n : Nat}, (∀ i, i < n → f i = g i) → al f n = al g n
  | 0, _ => rfl
  | n + 1, h => by
    show (al f n && _) = (al g n && _)
    rw [al_c (fun i hi => h i (Nat.lt_succ_of_lt hi)), h n (Nat.lt_succ_self n)]
theorem al_f {f : Nat → Bool} {i : Nat} (hf : f i = false) : ∀ {n : Nat}, i < n → al f n = false
  | n + 1, h => by
    show (al f n && f n) = false
    by_cases e : i = n
    · subst e; rw [hf, Bool.and_false]
    · rw [al_f hf (by omega), Bool.false_and]
theorem cnt_le (f : Nat → Bool) : ∀ n, cnt f n ≤ n
  | 0 => Nat.le_refl 0
  | n + 1 => by
    show cnt f n + (if f n then 1 else 0) ≤ n + 1
    have := cnt_le f n
    split <;> omega
theorem sm_le {f : Nat → Nat} {c : Nat} : ∀ {n : Nat}, (∀ i, i < n → f i ≤ c) → sm f n ≤ c * n
  | 0, _ => Nat.le_refl 0
  | n + 1, h => by
    show sm f n + f n ≤ c * (n + 1)
    have h1 := sm_le (c := c) (n := n) (fun i hi => h i (Nat.lt_succ_of_lt hi))
    have h2 := h n (Nat.lt_succ_self n)
    rw [Nat.mul_succ]; omega
theorem w_cm : ∀ g, g < 7 → ∀ i, i < 7 → (127 - 2 ^ g).testBit i = decide (i ≠ g) := by decide +kernel
theorem w_deg_le (w : VW) (i : Nat) : w_deg w i ≤ 7 := cnt_le _ 7
