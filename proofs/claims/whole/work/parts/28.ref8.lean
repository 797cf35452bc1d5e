/-! THE STATE that calls keep: a village (base, complaints, clauses, wishes, book) -/
abbrev CLS : Type := List (Nat × Nat × List Nat)
abbrev VI : Type := BS × (Nat → Nat) × CLS × List (Nat × Bool) × List (Nat × Nat)
abbrev u_b (u : VI) : BS := u.1
abbrev u_c (u : VI) : Nat → Nat := u.2.1
abbrev u_p (u : VI) : CLS := u.2.2.1
abbrev u_w (u : VI) : List (Nat × Bool) := u.2.2.2.1
abbrev u_k (u : VI) : List (Nat × Nat) := u.2.2.2.2
def VZ (b : BS) (c : Nat → Nat) : Prop := (∀ i, b_n b ≤ i → b_k b i = 0 ∧ b_v b i = 0 ∧ c i = 0) ∧ (∀ j, 4 * b_n b ≤ j → b_r b j = 0) ∧ ∀ i, c i ≤ 5
def OV (u : VI) : Prop := VZ (u_b u) (u_c u) ∧ b_y (u_b u) ≤ 999 ∧ (u_w u).length ≤ 6 ∧ (∀ q ∈ u_w u, q.1 < w_pr (b_n (u_b u))) ∧ (u_k u).length ≤ 12 ∧ ∀ q ∈ u_k u, q.1 < w_pr (b_n (u_b u)) ∧ q.2 < 100
def MWi (I : Nat → Nat → Int32) (w : List (Nat × Bool)) : Prop := I 55 34 = nI w.length ∧ ∀ (j : Nat) (q : Nat × Bool), w[j]? = some q → I 73 j = nI q.1 ∧ I 76 j = v_p (q.2 = true)
def MBo (I : Nat → Nat → Int32) (k : List (Nat × Nat)) : Prop := I 55 35 = nI k.length ∧ ∀ (j : Nat) (q : Nat × Nat), k[j]? = some q → I 74 j = nI q.1 ∧ I 75 j = nI q.2
/-- the reference's village, when f towns are made -/
def MVI (I : Nat → Nat → Int32) (f : Nat) (u : VI) : Prop := MW I (u_b u) 9 (u_p u) ∧ OV u ∧ (∀ i, i < 7 → I 60 i = nI (u_c u i)) ∧ (I 55 9 = -1 ∨ ∃ t, t < f ∧ I 55 9 = nI t) ∧ MWi I (u_w u) ∧ MBo I (u_k u)
theorem MVI_J {I I' : Nat → Nat → Int32} {f : Nat} {u : VI} (h : MVI I f u) (j : mJ I I') : MVI I' f u :=
  ⟨MW_J h.1 j, h.2.1, fun i hi => (mJ_h j (by decide)).trans (h.2.2.1 i hi), h.2.2.2.1.elim (fun z => Or.inl ((mJ_f j (by decide)).trans z)) (fun ⟨t, z1, z2⟩ => Or.inr ⟨t, z1, (mJ_f j (by decide)).trans z2⟩),
   ⟨(mJ_f j (by decide)).trans h.2.2.2.2.1.1, fun i q hq => ⟨(mJ_h j (by decide)).trans (h.2.2.2.2.1.2 i q hq).1, (mJ_h j (by decide)).trans (h.2.2.2.2.1.2 i q hq).2⟩⟩,
   ⟨(mJ_f j (by decide)).trans h.2.2.2.2.2.1, fun i q hq => ⟨(mJ_h j (by decide)).trans (h.2.2.2.2.2.2 i q hq).1, (mJ_h j (by decide)).trans (h.2.2.2.2.2.2 i q hq).2⟩⟩⟩
theorem v_u_u {α : Type} {f : Nat → Nat → α} {h k : Nat} {x z : α} : v_u (v_u f h k x) h k z = v_u f h k z := by
  funext a b
  simp only [v_u]
  split <;> rfl
theorem v_u_id {α : Type} {f : Nat → Nat → α} {h k : Nat} {x : α} (e : f h k = x) : v_u f h k x = f := by
  funext a b
  simp only [v_u]
  split
  · rename_i z; rw [z.1, z.2, e]
  · rfl
/-- a cell of the reference's that is put back -/
theorem mJ_put {I A B : Nat → Nat → Int32} {k : Nat} {c x : Int32} (h1 : mJ I (v_u A 55 k c)) (h2 : mJ (v_u A 55 k x) B) : mJ I (v_u B 55 k c) := by
  intro a z n
  have e1 := h1 a z n
  have e2 := h2 a z n
  by_cases q : a = 55 ∧ z = k
  · obtain ⟨rfl, rfl⟩ := q
    rw [v_u_same] at e1 ⊢
    exact e1
  · have w : ∀ (C : Nat → Nat → Int32) (y : Int32), v_u C 55 k y a z = C a z := fun C y => by simp only [v_u, if_neg q]
    rw [w] at e1 e2 ⊢
    exact e2.trans e1
theorem MP_u {I : Nat → Nat → Int32} {k : Nat} {x : Int32} {p : CLS} (h : MP I p) (hk : k ≠ 9) : MP (v_u I 55 k x) p := by
  rcases h with z | ⟨f, z1, z2⟩
  · exact Or.inl ⟨z.1, (v_u_k (Ne.symm hk)).trans z.2⟩
  · refine Or.inr ⟨f, (v_u_k (Ne.symm hk)).trans z1, z2.1, z2.2.1, (v_u_h (by decide)).trans z2.2.2.1, fun c q hq => ?_⟩
    obtain ⟨h1, h2, s, h3, h4, h5, h6⟩ := z2.2.2.2 c q hq
    exact ⟨(v_u_h (by decide)).trans h1, (v_u_h (by decide)).trans h2, s, (v_u_h (by decide)).trans h3, (v_u_h (by decide)).trans h4, h5, fun i k hk => (v_u_h (by decide)).trans (h6 i k hk)⟩
theorem MB_u {I : Nat → Nat → Int32} {k : Nat} {x : Int32} {b : BS} (h : MB I b) (hk : k ≠ 0 ∧ k ≠ 1) : MB (v_u I 55 k x) b :=
  ⟨(v_u_k (Ne.symm hk.1)).trans h.1, (v_u_k (Ne.symm hk.2)).trans h.2.1, fun i hi => (v_u_h (by decide)).trans (h.2.2.1 i hi), fun i hi => (v_u_h (by decide)).trans (h.2.2.2.1 i hi), fun i hi => (v_u_h (by decide)).trans (h.2.2.2.2.1 i hi), fun i hi => (v_u_h (by decide)).trans (h.2.2.2.2.2 i hi)⟩
theorem MW_g {I : Nat → Nat → Int32} {b : BS} {g g' : Nat} {p : CLS} (h : MW I b g p) (hg : g' < 7) : MW (v_u I 55 2 (nI g')) b g' p :=
  ⟨⟨MB_u h.1.1 (by decide), h.1.2.1, Or.inl ⟨hg, v_u_same⟩⟩, MP_u h.2 (by decide)⟩
theorem MG9 {I : Nat → Nat → Int32} (h : MG I 9) : I 55 2 = -1 := h.elim (fun z => absurd z.1 (by decide)) (fun z => z.2)
def b_yr (b : BS) (y : Nat) : BS := (b_n b, y, b_k b, b_v b, b_m b, b_r b)
theorem MW_y {I : Nat → Nat → Int32} {b : BS} {g y : Nat} {p : CLS} (h : MW I b g p) (hy : y < 2000) : MW (v_u I 55 1 (nI y)) (b_yr b y) g p :=
  ⟨⟨⟨(v_u_k (by decide)).trans h.1.1.1, v_u_same, fun i hi => (v_u_h (by decide)).trans (h.1.1.2.2.1 i hi), fun i hi => (v_u_h (by decide)).trans (h.1.1.2.2.2.1 i hi), fun i hi => (v_u_h (by decide)).trans (h.1.1.2.2.2.2.1 i hi), fun i hi => (v_u_h (by decide)).trans (h.1.1.2.2.2.2.2 i hi)⟩, ⟨h.1.2.1.1, hy, h.1.2.1.2.2⟩, h.1.2.2.elim (fun z => Or.inl ⟨z.1, (v_u_k (by decide)).trans z.2⟩) (fun z => Or.inr ⟨z.1, (v_u_k (by decide)).trans z.2⟩)⟩, MP_u h.2 (by decide)⟩
def s_goes (b : BS) (p : CLS) (w : Int32) : Int32 := s_best (w_fst (fun g => w_many (vw b g p)) (none, 99) (b_n b)) w
def s_next (b : BS) (p : CLS) (n w : Int32) : Int32 := match x_nat w 2, x_nat n 61 with
  | none, _ => -1
  | some _, none => -2
  | some _, some k => s_best (w_fst (fun d => w_many (vw (b_yr b (b_y b + d)) 9 p)) (some 0, w_many (vw b 9 p)) (k + 1)) w
theorem w_fst_s (m : Nat → Nat) (z : Option Nat × Nat) (hz : z.1.isSome = true) : ∀ n, (w_fst m z n).1.isSome = true
  | 0 => hz
  | n + 1 => by
    show (if m n < (w_fst m z n).2 then (some n, m n) else w_fst m z n).1.isSome = true
    split
    · rfl
    · exact w_fst_s m z hz n
/-- the first answer -/
def w_ff (f : Nat → Option Int32) : Nat → Option Int32
  | 0 => none
  | k + 1 => match w_ff f k with
    | some x => some x
    | none => f k
theorem w_ff_s {f : Nat → Option Int32} {i : Nat} {x : Int32} (h : w_ff f i = none) (hx : f i = some x) : ∀ {k}, i < k → w_ff f k = some x
  | k + 1, hk => by
    show (match w_ff f k with | some x => some x | none => f k) = some x
    by_cases e : i = k
    · subst e; rw [h]; exact hx
    · rw [w_ff_s h hx (show i < k by omega)]
theorem w_ff_n {f : Nat → Option Int32} {i : Nat} (h : w_ff f i = none) (hx : f i = none) : w_ff f (i + 1) = none := by
  show (match w_ff f i with | some x => some x | none => f i) = none
  rw [h]; exact hx
def w_lk (b : BS) (p : CLS) (k : List (Nat × Nat)) (i : Nat) : Option Int32 := match k[i]? with
  | some q => if w_com (vw b 9 p) (w_l q.1) (w_g q.1) = q.2 then none else some (nI i)
  | none => none
def s_looked (b : BS) (p : CLS) (k : List (Nat × Nat)) : Int32 := (w_ff (w_lk b p k) k.length).getD (-5)
/-- of the first wishes: how many are kept; what the others cost -/
def w_kn (v : VW) : List (Nat × Bool) → Nat
  | [] => 0
  | q :: w => (if w_a v (w_l q.1) (w_g q.1) = q.2 then 1 else 0) + w_kn v w
def w_kc (v : VW) : List (Nat × Bool) → Nat
  | [] => 0
  | q :: w => (if w_a v (w_l q.1) (w_g q.1) = q.2 then 0 else w_price v (w_l q.1) (w_g q.1)) + w_kc v w
theorem w_kn_a (v : VW) (q : Nat × Bool) : ∀ w, w_kn v (w ++ [q]) = w_kn v w + if w_a v (w_l q.1) (w_g q.1) = q.2 then 1 else 0
  | [] => Nat.add_comm _ _
  | a :: w => by show _ + w_kn v (w ++ [q]) = _; rw [w_kn_a v q w]; exact (Nat.add_assoc _ _ _).symm
theorem w_kc_a (v : VW) (q : Nat × Bool) : ∀ w, w_kc v (w ++ [q]) = w_kc v w + if w_a v (w_l q.1) (w_g q.1) = q.2 then 0 else w_price v (w_l q.1) (w_g q.1)
  | [] => Nat.add_comm _ _
  | a :: w => by show _ + w_kc v (w ++ [q]) = _; rw [w_kc_a v q w]; exact (Nat.add_assoc _ _ _).symm
def s_kept (v : VW) (w : List (Nat × Bool)) (x : Int32) : Int32 := match x_nat x 2 with
  | some 0 => nI (w_kn v w)
  | some 1 => nI (w_kc v w)
  | _ => -1
def s_trace (t : List Nat) (i : Int32) : Int32 := match x_nat i (min 20 t.length) with
  | some j => nI (t.getD j 0)
  | none => -1
def MTr (I : Nat → Nat → Int32) (t : List Nat) : Prop := I 55 55 = nI t.length ∧ t.length ≤ 20 ∧ ∀ (j x : Nat), t[j]? = some x → I 86 j = nI x
def k_sub (k is : Nat) : Bool := k == 0 || is == k || (k == 1 && is == 4) || (k == 2 && is == 5) || (k == 3 && is == 6)
def s_taken (b : BS) (i k : Int32) : Int32 := match x_nat k 7, x_nat i (b_n b) with
  | none, _ => -2
  | some _, none => -11
  | some k, some j => if k_sub k (b_k b j) = true then nI (b_k b j) else -12
def s_count (n t w k f r : Nat) (x : Int32) : Int32 := match x_nat x 6 with
  | some 0 => nI n
  | some 1 => nI t
  | some 2 => nI w
  | some 3 => nI k
  | some 4 => nI f
  | some 5 => nI r
  | _ => -2
theorem w_goes_n (m : Nat → Nat) : ∀ (n : Nat) (o : Option Nat), (w_fst m (none, 99) n).1 = o → o = none → (w_fst m (none, 99) n).2 = 99
  | 0, _, _, _ => rfl
  | n + 1, o, h1, h2 => by
    subst h2
    have e : w_fst m (none, 99) (n + 1) = if m n < (w_fst m (none, 99) n).2 then (some n, m n) else w_fst m (none, 99) n := rfl
    rw [e] at h1 ⊢
    split at h1
    · cases h1
    · rename_i z
      rw [if_neg z]
      exact w_goes_n m n _ h1 rfl
abbrev rm_X12_goes : Room := { frames := 7, cells := 0, slots := 0, locals := 168 }
set_option maxRecDepth 20000 in
theorem c_X12_goes (G : v_G) (l : Launch) {K : Nat × v_TY} {I : Nat → Nat → Int32} {J : Nat → Nat → Int64} {R : Nat → Nat → Option Nat} (hL : Lay K R) {ww : Int32} {b : BS} {p : List (Nat × Nat × List Nat)} (h : MW I b 9 p) : v_M G l yX12_goes cX12_goes 6 (some .int) rm_X12_goes [.ref 55, .int ww] (K, I, J, R) (v_Qi G (fun (x : Int32) (M' : v_MM) => x = s_goes b p ww ∧ ∃ I', M' = (K, I', J, R) ∧ mJ I I')) := by
  refine v_of [some (.ref 55), some (.int ww), none, none, none, none] (by decide) (Nat.le_of_ble_eq_true rfl) (Nat.le_of_ble_eq_true rfl) rfl ?_
  refine v_aload_n (pc := 0) dX12_goes_0 rfl rfl ?_
  refine v_iload_n (pc := 1) dX12_goes_1 rfl rfl ?_
  refine v_iconst (pc := 2) (v := nI 0) dX12_goes_2 (by decide) ?_
  refine v_iconst (pc := 3) (v := nI 1) dX12_goes_3 (by decide) ?_
  refine v_ci (pc := 4) (v_rV (c_X12_in G l hL) rfl kV_X12_197 (v_rcO (li_55 hL) rfl (by decide)) ⟨Nat.le_of_ble_eq_true rfl, Nat.le_of_ble_eq_true rfl⟩ ⟨Nat.le_of_ble_eq_true rfl, Nat.le_of_ble_eq_true rfl⟩ dX12_goes_4 (Nat.le_of_ble_eq_true rfl)) (fun x4 M4 h4 => ?_)
  obtain ⟨rfl, rfl⟩ := h4
  refine v_if_neP (pc := 7) (tgt := 12) dX12_goes_7 (by decide) (fun c7 => ?_) (fun c7 => ?_)
  · have hw2 := x_two (v_in_iff (by decide) |>.mp c7)
    refine v_bipush (pc := 12) (v := -5) dX12_goes_12 (by decide) ?_
    refine v_istore_n (pc := 14) dX12_goes_14 rfl (by decide) rfl ?_
    refine v_iconst (pc := 15) (v := nI 0) dX12_goes_15 (by decide) ?_
    refine v_istore_n (pc := 16) dX12_goes_16 rfl (by decide) rfl ?_
    refine v_iconst (pc := 17) (v := nI 0) dX12_goes_17 (by decide) ?_
    refine v_istore (pc := 18) dX12_goes_18 (by decide) rfl ?_
    have hn := VBn h.1
    have hg9 := MG9 h.1.2.2
    have key : ∀ i, i ≤ b_n b → ∀ (Ii : Nat → Nat → Int32) (z5 : Option Value), mJ I (v_u Ii 55 2 (-1)) → v_V G l yX12_goes cX12_goes 6 (some .int) rm_X12_goes (v_Qi G (fun (x : Int32) (M' : v_MM) => x = s_goes b p ww ∧ ∃ I', M' = (K, I', J, R) ∧ mJ I I')) 0 0 20 [some (.ref 55), some (.int ww), some (.int (w_o (w_fst (fun g => w_many (vw b g p)) (none, 99) i).1)), some (.int (nI (match (w_fst (fun g => w_many (vw b g p)) (none, 99) i).1 with | none => 0 | some _ => (w_fst (fun g => w_many (vw b g p)) (none, 99) i).2))), some (.int (nI i)), z5] [] (K, Ii, J, R) := by
      refine v_down (b_n b) (fun i hi ih => ?_)
      intro Ii z5 hj
      have hw := MW_J h hj
      refine v_iload (pc := 20) dX12_goes_20 rfl ?_
      refine v_aload_n (pc := 22) dX12_goes_22 rfl rfl ?_
      refine v_getV (pc := 23) fg_X12_7_12 dX12_goes_23 (li_55 hL) ((v_u_k (by decide)).symm.trans (MVn hw.1)) ?_
      refine v_icmp_geN (pc := 26) (tgt := 66) ⟨by omega, by omega⟩ dX12_goes_26 (by decide) (fun c26 => ?_) (fun c26 => ?_)
      · have e : i = b_n b := by omega
        subst e
        have hkb := w_fst_k (fun g => w_many (vw b g p)) (none, 99) 6 (fun k z => by cases z) (b_n b) (by omega)
        show v_V G l _ _ _ _ _ (v_Qi G (fun (x : Int32) (M' : v_MM) => x = s_best (w_fst (fun g => w_many (vw b g p)) (none, 99) (b_n b)) ww ∧ _)) _ _ _ _ _ _
        generalize w_fst (fun g => w_many (vw b g p)) (none, 99) (b_n b) = z at hkb ⊢
        obtain ⟨o, z⟩ := z
        rcases hw2 with rfl | rfl <;> rcases o with - | k
        · refine v_aload_n (pc := 66) dX12_goes_66 rfl rfl ?_
          refine v_iconst (pc := 67) (v := -1) dX12_goes_67 (by decide) ?_
          refine v_putI (pc := 68) pg_X12_16_12 (fun h => by cases h) dX12_goes_68 (li_55 hL) rfl rfl ?_
          refine v_iload_n (pc := 71) dX12_goes_71 rfl rfl ?_
          refine v_if_lt (pc := 72) (tgt := 79) dX12_goes_72 (by decide) (fun c72 => ?_) (fun c72 => ?_)
          · refine v_iload_n (pc := 79) dX12_goes_79 rfl rfl ?_
            refine v_goto (pc := 80) (tgt := 84) dX12_goes_80 (by decide) ?_
            exact v_iret (pc := 84) dX12_goes_84 rfl rfl (Nat.le_of_ble_eq_true rfl) (Nat.le_of_ble_eq_true rfl) ⟨by first | omega | rfl | exact absurd (show (-5 : Int32) < 0 by decide) c72, _, rfl, hj⟩
          · refine v_iload_n (pc := 75) dX12_goes_75 rfl rfl ?_
            refine v_if_neN (pc := 76) (tgt := 83) (by omega) dX12_goes_76 (by decide) (fun c76 => ?_) (fun c76 => ?_)
            · refine v_iload_n (pc := 83) dX12_goes_83 rfl rfl ?_
              exact v_iret (pc := 84) dX12_goes_84 rfl rfl (Nat.le_of_ble_eq_true rfl) (Nat.le_of_ble_eq_true rfl) ⟨by first | omega | rfl | exact absurd (show (-5 : Int32) < 0 by decide) c72, _, rfl, hj⟩
            · refine v_iload_n (pc := 79) dX12_goes_79 rfl rfl ?_
              refine v_goto (pc := 80) (tgt := 84) dX12_goes_80 (by decide) ?_
              exact v_iret (pc := 84) dX12_goes_84 rfl rfl (Nat.le_of_ble_eq_true rfl) (Nat.le_of_ble_eq_true rfl) ⟨by first | omega | rfl | exact absurd (show (-5 : Int32) < 0 by decide) c72, _, rfl, hj⟩
        · have := hkb k rfl
          refine v_aload_n (pc := 66) dX12_goes_66 rfl rfl ?_
          refine v_iconst (pc := 67) (v := -1) dX12_goes_67 (by decide) ?_
          refine v_putI (pc := 68) pg_X12_16_12 (fun h => by cases h) dX12_goes_68 (li_55 hL) rfl rfl ?_
          refine v_iload_n (pc := 71) dX12_goes_71 rfl rfl ?_
          refine v_if_ltN (pc := 72) (tgt := 79) (by omega) dX12_goes_72 (by decide) ?_
          refine v_iload_n (pc := 75) dX12_goes_75 rfl rfl ?_
          refine v_if_neN (pc := 76) (tgt := 83) (by omega) dX12_goes_76 (by decide) (fun c76 => ?_) (fun c76 => ?_)
          · refine v_iload_n (pc := 83) dX12_goes_83 rfl rfl ?_
            exact v_iret (pc := 84) dX12_goes_84 rfl rfl (Nat.le_of_ble_eq_true rfl) (Nat.le_of_ble_eq_true rfl) ⟨by first | omega | rfl | exact absurd (show (-5 : Int32) < 0 by decide) c72, _, rfl, hj⟩
          · refine v_iload_n (pc := 79) dX12_goes_79 rfl rfl ?_
            refine v_goto (pc := 80) (tgt := 84) dX12_goes_80 (by decide) ?_
            exact v_iret (pc := 84) dX12_goes_84 rfl rfl (Nat.le_of_ble_eq_true rfl) (Nat.le_of_ble_eq_true rfl) ⟨by first | omega | rfl | exact absurd (show (-5 : Int32) < 0 by decide) c72, _, rfl, hj⟩
        · refine v_aload_n (pc := 66) dX12_goes_66 rfl rfl ?_
          refine v_iconst (pc := 67) (v := -1) dX12_goes_67 (by decide) ?_
          refine v_putI (pc := 68) pg_X12_16_12 (fun h => by cases h) dX12_goes_68 (li_55 hL) rfl rfl ?_
          refine v_iload_n (pc := 71) dX12_goes_71 rfl rfl ?_
          refine v_if_lt (pc := 72) (tgt := 79) dX12_goes_72 (by decide) (fun c72 => ?_) (fun c72 => ?_)
          · refine v_iload_n (pc := 79) dX12_goes_79 rfl rfl ?_
            refine v_goto (pc := 80) (tgt := 84) dX12_goes_80 (by decide) ?_
            exact v_iret (pc := 84) dX12_goes_84 rfl rfl (Nat.le_of_ble_eq_true rfl) (Nat.le_of_ble_eq_true rfl) ⟨by first | omega | rfl | exact absurd (show (-5 : Int32) < 0 by decide) c72, _, rfl, hj⟩
          · refine v_iload_n (pc := 75) dX12_goes_75 rfl rfl ?_
            refine v_if_neN (pc := 76) (tgt := 83) (by omega) dX12_goes_76 (by decide) (fun c76 => ?_) (fun c76 => ?_)
            · refine v_iload_n (pc := 83) dX12_goes_83 rfl rfl ?_
              exact v_iret (pc := 84) dX12_goes_84 rfl rfl (Nat.le_of_ble_eq_true rfl) (Nat.le_of_ble_eq_true rfl) ⟨by first | omega | rfl | exact absurd (show (-5 : Int32) < 0 by decide) c72, _, rfl, hj⟩
            · refine v_iload_n (pc := 79) dX12_goes_79 rfl rfl ?_
              refine v_goto (pc := 80) (tgt := 84) dX12_goes_80 (by decide) ?_
              exact v_iret (pc := 84) dX12_goes_84 rfl rfl (Nat.le_of_ble_eq_true rfl) (Nat.le_of_ble_eq_true rfl) ⟨by first | omega | rfl | exact absurd (show (-5 : Int32) < 0 by decide) c72, _, rfl, hj⟩
        · have := hkb k rfl
          refine v_aload_n (pc := 66) dX12_goes_66 rfl rfl ?_
          refine v_iconst (pc := 67) (v := -1) dX12_goes_67 (by decide) ?_
          refine v_putI (pc := 68) pg_X12_16_12 (fun h => by cases h) dX12_goes_68 (li_55 hL) rfl rfl ?_
          refine v_iload_n (pc := 71) dX12_goes_71 rfl rfl ?_
          refine v_if_ltN (pc := 72) (tgt := 79) (by omega) dX12_goes_72 (by decide) ?_
          refine v_iload_n (pc := 75) dX12_goes_75 rfl rfl ?_
          refine v_if_neN (pc := 76) (tgt := 83) (by omega) dX12_goes_76 (by decide) (fun c76 => ?_) (fun c76 => ?_)
          · refine v_iload_n (pc := 83) dX12_goes_83 rfl rfl ?_
            exact v_iret (pc := 84) dX12_goes_84 rfl rfl (Nat.le_of_ble_eq_true rfl) (Nat.le_of_ble_eq_true rfl) ⟨by first | omega | rfl | exact absurd (show (-5 : Int32) < 0 by decide) c72, _, rfl, hj⟩
          · refine v_iload_n (pc := 79) dX12_goes_79 rfl rfl ?_
            refine v_goto (pc := 80) (tgt := 84) dX12_goes_80 (by decide) ?_
            exact v_iret (pc := 84) dX12_goes_84 rfl rfl (Nat.le_of_ble_eq_true rfl) (Nat.le_of_ble_eq_true rfl) ⟨by first | omega | rfl | exact absurd (show (-5 : Int32) < 0 by decide) c72, _, rfl, hj⟩
      · have hw3 : MW (v_u Ii 55 2 (nI i)) b i p := by
          have e := MW_g (g' := i) hw (by omega)
          rw [v_u_u] at e
          exact e
        refine v_aload_n (pc := 29) dX12_goes_29 rfl rfl ?_
        refine v_iload (pc := 30) dX12_goes_30 rfl ?_
        refine v_putI (pc := 32) pg_X12_16_12 (fun h => by cases h) dX12_goes_32 (li_55 hL) rfl rfl ?_
        refine v_aload_n (pc := 35) dX12_goes_35 rfl rfl ?_
        refine v_ci (pc := 36) (v_rV (c_X12_layAmiss G l hL hw3) rfl kV_X12_307 (v_rcO (li_55 hL) rfl (by decide)) ⟨Nat.le_of_ble_eq_true rfl, Nat.le_of_ble_eq_true rfl⟩ ⟨Nat.le_of_ble_eq_true rfl, Nat.le_of_ble_eq_true rfl⟩ dX12_goes_36 (Nat.le_of_ble_eq_true rfl)) (fun x36 M36 h36 => ?_)
        obtain ⟨rfl, I3, rfl, m3⟩ := h36
        have hj3 := mJ_put hj m3.1
        have hmt := w_many_lt h.1.2.1 i p
        have hst : ∀ o, (w_fst (fun g => w_many (vw b g p)) (none, 99) i).1 = o → o = none → (w_fst (fun g => w_many (vw b g p)) (none, 99) i).2 = 99 := w_goes_n (fun g => w_many (vw b g p)) i
        have hlt := w_fst_lt (fun g => w_many (vw b g p)) (none, 99) 100 (by decide) i (fun k hk => by have := w_many_lt h.1.2.1 k p; show w_many _ < 100; omega)
        have hkb := w_fst_k (fun g => w_many (vw b g p)) (none, 99) 6 (fun k z => by cases z) i (by omega)
        have ee : w_fst (fun g => w_many (vw b g p)) (none, 99) (i + 1) = if w_many (vw b i p) < (w_fst (fun g => w_many (vw b g p)) (none, 99) i).2 then (some i, w_many (vw b i p)) else (w_fst (fun g => w_many (vw b g p)) (none, 99) i) := rfl
        have goon := fun z => ih (i + 1) (by omega) (by omega) I3 z hj3
        rw [ee] at goon
        generalize (w_fst (fun g => w_many (vw b g p)) (none, 99) i) = z at hst hlt hkb goon ⊢
        obtain ⟨o, q⟩ := z
        refine v_istore (pc := 39) dX12_goes_39 (by decide) rfl ?_
        rcases o with - | k
        · have q99 := hst none rfl rfl
          dsimp only at q99 goon ⊢
          subst q99
          rw [if_pos (by omega)] at goon
          refine v_iload_n (pc := 41) dX12_goes_41 rfl rfl ?_
          refine v_if_lt (pc := 42) (tgt := 54) dX12_goes_42 (by decide) (fun c42 => ?_) (fun c42 => ?_)
          · refine v_iload (pc := 54) dX12_goes_54 rfl ?_
            refine v_istore_n (pc := 56) dX12_goes_56 rfl (by decide) rfl ?_
            refine v_iload (pc := 57) dX12_goes_57 rfl ?_
            refine v_istore_n (pc := 59) dX12_goes_59 rfl (by decide) rfl ?_
            refine v_iincN (pc := 60) (b := 1) dX12_goes_60 rfl (by decide) (by decide) rfl ?_
            refine v_goto (pc := 63) (tgt := 20) dX12_goes_63 (by decide) ?_
            exact goon _
          · exact absurd (show (-5 : Int32) < 0 by decide) c42
        · have := hkb k rfl
          dsimp only at goon hlt ⊢
          refine v_iload_n (pc := 41) dX12_goes_41 rfl rfl ?_
          refine v_if_ltN (pc := 42) (tgt := 54) (by omega) dX12_goes_42 (by decide) ?_
          refine v_iload (pc := 45) dX12_goes_45 rfl ?_
          refine v_iload_n (pc := 47) dX12_goes_47 rfl rfl ?_
          refine v_icmp_ltN (pc := 48) (tgt := 54) ⟨by omega, by omega⟩ dX12_goes_48 (by decide) (fun c48 => ?_) (fun c48 => ?_)
          · refine v_iload (pc := 54) dX12_goes_54 rfl ?_
            refine v_istore_n (pc := 56) dX12_goes_56 rfl (by decide) rfl ?_
            refine v_iload (pc := 57) dX12_goes_57 rfl ?_
            refine v_istore_n (pc := 59) dX12_goes_59 rfl (by decide) rfl ?_
            refine v_iincN (pc := 60) (b := 1) dX12_goes_60 rfl (by decide) (by decide) rfl ?_
            refine v_goto (pc := 63) (tgt := 20) dX12_goes_63 (by decide) ?_
            first
              | (rw [if_pos c48] at goon; exact goon _)
              | (rw [if_neg (by omega)] at goon; exact goon _)
          · refine v_goto (pc := 51) (tgt := 60) dX12_goes_51 (by decide) ?_
            refine v_iincN (pc := 60) (b := 1) dX12_goes_60 rfl (by decide) (by decide) rfl ?_
            refine v_goto (pc := 63) (tgt := 20) dX12_goes_63 (by decide) ?_
            first
              | (rw [if_pos c48] at goon; exact goon _)
              | (rw [if_neg (by omega)] at goon; exact goon _)
    exact key 0 (by omega) I none (by rw [v_u_id hg9]; exact mJ_rf)
  · have e2 : x_nat ww 2 = none := x_nat_n (fun z => c7 (v_in_iff (by decide) |>.mpr z))
    refine v_iconst (pc := 10) (v := -1) dX12_goes_10 (by decide) ?_
    exact v_iret (pc := 11) dX12_goes_11 rfl rfl (Nat.le_of_ble_eq_true rfl) (Nat.le_of_ble_eq_true rfl) ⟨by simp only [s_goes, s_best, e2], I, rfl, mJ_rf⟩
abbrev rm_X12_next : Room := { frames := 7, cells := 0, slots := 0, locals := 168 }
set_option maxRecDepth 20000 in
theorem c_X12_next (G : v_G) (l : Launch) {K : Nat × v_TY} {I : Nat → Nat → Int32} {J : Nat → Nat → Int64} {R : Nat → Nat → Option Nat} (hL : Lay K R) {nn ww : Int32} {b : BS} {p : List (Nat × Nat × List Nat)} (h : MW I b 9 p) (hy : b_y b ≤ 999) : v_M G l yX12_next cX12_next 8 (some .int) rm_X12_next [.ref 55, .int nn, .int ww] (K, I, J, R) (v_Qi G (fun (x : Int32) (M' : v_MM) => x = s_next b p nn ww ∧ ∃ I', M' = (K, I', J, R) ∧ mJ I I')) := by
  refine v_of [some (.ref 55), some (.int nn), some (.int ww), none, none, none, none, none] (by decide) (Nat.le_of_ble_eq_true rfl) (Nat.le_of_ble_eq_true rfl) rfl ?_
  refine v_aload_n (pc := 0) dX12_next_0 rfl rfl ?_
  refine v_iload_n (pc := 1) dX12_next_1 rfl rfl ?_
  refine v_iconst (pc := 2) (v := nI 0) dX12_next_2 (by decide) ?_
  refine v_iconst (pc := 3) (v := nI 1) dX12_next_3 (by decide) ?_
  refine v_ci (pc := 4) (v_rV (c_X12_in G l hL) rfl kV_X12_197 (v_rcO (li_55 hL) rfl (by decide)) ⟨Nat.le_of_ble_eq_true rfl, Nat.le_of_ble_eq_true rfl⟩ ⟨Nat.le_of_ble_eq_true rfl, Nat.le_of_ble_eq_true rfl⟩ dX12_next_4 (Nat.le_of_ble_eq_true rfl)) (fun x4 M4 h4 => ?_)
  obtain ⟨rfl, rfl⟩ := h4
  refine v_if_neP (pc := 7) (tgt := 12) dX12_next_7 (by decide) (fun c7 => ?_) (fun c7 => ?_)
  · have hw2 := x_two (v_in_iff (by decide) |>.mp c7)
    refine v_aload_n (pc := 12) dX12_next_12 rfl rfl ?_
    refine v_iload_n (pc := 13) dX12_next_13 rfl rfl ?_
    refine v_iconst (pc := 14) (v := nI 0) dX12_next_14 (by decide) ?_
    refine v_bipush (pc := 15) (v := nI 60) dX12_next_15 (by decide) ?_
    refine v_ci (pc := 17) (v_rV (c_X12_in G l hL) rfl kV_X12_197 (v_rcO (li_55 hL) rfl (by decide)) ⟨Nat.le_of_ble_eq_true rfl, Nat.le_of_ble_eq_true rfl⟩ ⟨Nat.le_of_ble_eq_true rfl, Nat.le_of_ble_eq_true rfl⟩ dX12_next_17 (Nat.le_of_ble_eq_true rfl)) (fun x17 M17 h17 => ?_)
    obtain ⟨rfl, rfl⟩ := h17
    refine v_if_neP (pc := 20) (tgt := 26) dX12_next_20 (by decide) (fun c20 => ?_) (fun c20 => ?_)
    · obtain ⟨n, hn, en, e3⟩ := x_nat_i (v_in_iff (by decide) |>.mp c20) (by decide)
      subst en
      refine v_aload_n (pc := 26) dX12_next_26 rfl rfl ?_
      refine v_getV (pc := 27) fg_X12_13_12 dX12_next_27 (li_55 hL) (MVy h.1) ?_
      refine v_istore_n (pc := 30) dX12_next_30 rfl (by decide) rfl ?_
      refine v_iconst (pc := 31) (v := nI 0) dX12_next_31 (by decide) ?_
      refine v_istore (pc := 32) dX12_next_32 (by decide) rfl ?_
      refine v_aload_n (pc := 34) dX12_next_34 rfl rfl ?_
      refine v_ci (pc := 35) (v_rV (c_X12_layAmiss G l hL h) rfl kV_X12_307 (v_rcO (li_55 hL) rfl (by decide)) ⟨Nat.le_of_ble_eq_true rfl, Nat.le_of_ble_eq_true rfl⟩ ⟨Nat.le_of_ble_eq_true rfl, Nat.le_of_ble_eq_true rfl⟩ dX12_next_35 (Nat.le_of_ble_eq_true rfl)) (fun x35 M35 h35 => ?_)
      obtain ⟨rfl, I2, rfl, m2⟩ := h35
      refine v_istore (pc := 38) dX12_next_38 (by decide) rfl ?_
      refine v_iconst (pc := 40) (v := nI 1) dX12_next_40 (by decide) ?_
      refine v_istore (pc := 41) dX12_next_41 (by decide) rfl ?_
      have key : ∀ i, i ≤ n + 1 → 1 ≤ i → ∀ (Ii : Nat → Nat → Int32) (z7 : Option Value), mJ I (v_u Ii 55 1 (nI (b_y b))) → v_V G l yX12_next cX12_next 8 (some .int) rm_X12_next (v_Qi G (fun (x : Int32) (M' : v_MM) => x = s_next b p (nI n) ww ∧ ∃ I', M' = (K, I', J, R) ∧ mJ I I')) 0 0 43 [some (.ref 55), some (.int (nI n)), some (.int ww), some (.int (nI (b_y b))), some (.int (nI ((w_fst (fun d => w_many (vw (b_yr b (b_y b + d)) 9 p)) (some 0, w_many (vw b 9 p)) i).1.getD 0))), some (.int (nI (w_fst (fun d => w_many (vw (b_yr b (b_y b + d)) 9 p)) (some 0, w_many (vw b 9 p)) i).2)), some (.int (nI i)), z7] [] (K, Ii, J, R) := by
        refine v_down (n + 1) (fun i hi ih => ?_)
        intro hi1 Ii z7 hj
        have hw := MW_J h hj
        refine v_iload (pc := 43) dX12_next_43 rfl ?_
        refine v_iload_n (pc := 45) dX12_next_45 rfl rfl ?_
        refine v_icmp_gtN (pc := 46) (tgt := 87) ⟨by omega, by omega⟩ dX12_next_46 (by decide) (fun c46 => ?_) (fun c46 => ?_)
        · have e : i = n + 1 := by omega
          subst e
          have hs := w_fst_s (fun d => w_many (vw (b_yr b (b_y b + d)) 9 p)) (some 0, w_many (vw b 9 p)) rfl (n + 1)
          have e5 : s_next b p (nI n) ww = s_best (w_fst (fun d => w_many (vw (b_yr b (b_y b + d)) 9 p)) (some 0, w_many (vw b 9 p)) (n + 1)) ww := by rcases hw2 with rfl | rfl <;> simp only [s_next, e3, show x_nat (nI 0) 2 = some 0 from rfl, show x_nat (nI 1) 2 = some 1 from rfl]
          rw [e5]
          generalize w_fst (fun d => w_many (vw (b_yr b (b_y b + d)) 9 p)) (some 0, w_many (vw b 9 p)) (n + 1) = z at hs ⊢
          obtain ⟨o, z⟩ := z
          obtain ⟨k, rfl⟩ := Option.isSome_iff_exists.mp hs
          rcases hw2 with rfl | rfl
          · refine v_aload_n (pc := 87) dX12_next_87 rfl rfl ?_
            refine v_iload_n (pc := 88) dX12_next_88 rfl rfl ?_
            refine v_putI (pc := 89) pg_X12_13_12 (fun h => by cases h) dX12_next_89 (li_55 hL) rfl rfl ?_
            refine v_iload_n (pc := 92) dX12_next_92 rfl rfl ?_
            refine v_if_neN (pc := 93) (tgt := 101) (by omega) dX12_next_93 (by decide) (fun c93 => ?_) (fun c93 => ?_)
            · refine v_iload (pc := 101) dX12_next_101 rfl ?_
              exact v_iret (pc := 103) dX12_next_103 rfl rfl (Nat.le_of_ble_eq_true rfl) (Nat.le_of_ble_eq_true rfl) ⟨by first | omega | rfl, _, rfl, hj⟩
            · refine v_iload (pc := 96) dX12_next_96 rfl ?_
              refine v_goto (pc := 98) (tgt := 103) dX12_next_98 (by decide) ?_
              exact v_iret (pc := 103) dX12_next_103 rfl rfl (Nat.le_of_ble_eq_true rfl) (Nat.le_of_ble_eq_true rfl) ⟨by first | omega | rfl, _, rfl, hj⟩
          · refine v_aload_n (pc := 87) dX12_next_87 rfl rfl ?_
            refine v_iload_n (pc := 88) dX12_next_88 rfl rfl ?_
            refine v_putI (pc := 89) pg_X12_13_12 (fun h => by cases h) dX12_next_89 (li_55 hL) rfl rfl ?_
            refine v_iload_n (pc := 92) dX12_next_92 rfl rfl ?_
            refine v_if_neN (pc := 93) (tgt := 101) (by omega) dX12_next_93 (by decide) (fun c93 => ?_) (fun c93 => ?_)
            · refine v_iload (pc := 101) dX12_next_101 rfl ?_
              exact v_iret (pc := 103) dX12_next_103 rfl rfl (Nat.le_of_ble_eq_true rfl) (Nat.le_of_ble_eq_true rfl) ⟨by first | omega | rfl, _, rfl, hj⟩
            · refine v_iload (pc := 96) dX12_next_96 rfl ?_
              refine v_goto (pc := 98) (tgt := 103) dX12_next_98 (by decide) ?_
              exact v_iret (pc := 103) dX12_next_103 rfl rfl (Nat.le_of_ble_eq_true rfl) (Nat.le_of_ble_eq_true rfl) ⟨by first | omega | rfl, _, rfl, hj⟩
        · have hw3 : MW (v_u Ii 55 1 (nI (b_y b + i))) (b_yr b (b_y b + i)) 9 p := by
            have e := MW_y (y := b_y b + i) hw (by omega)
            rw [v_u_u] at e
            exact e
          refine v_aload_n (pc := 49) dX12_next_49 rfl rfl ?_
          refine v_iload_n (pc := 50) dX12_next_50 rfl rfl ?_
          refine v_iload (pc := 51) dX12_next_51 rfl ?_
          refine v_iaddN (pc := 53) dX12_next_53 ?_
          refine v_putI (pc := 54) pg_X12_13_12 (fun h => by cases h) dX12_next_54 (li_55 hL) rfl rfl ?_
          refine v_aload_n (pc := 57) dX12_next_57 rfl rfl ?_
          refine v_ci (pc := 58) (v_rV (c_X12_layAmiss G l hL hw3) rfl kV_X12_307 (v_rcO (li_55 hL) rfl (by decide)) ⟨Nat.le_of_ble_eq_true rfl, Nat.le_of_ble_eq_true rfl⟩ ⟨Nat.le_of_ble_eq_true rfl, Nat.le_of_ble_eq_true rfl⟩ dX12_next_58 (Nat.le_of_ble_eq_true rfl)) (fun x58 M58 h58 => ?_)
          obtain ⟨rfl, I3, rfl, m3⟩ := h58
          have hj3 := mJ_put hj m3.1
          have hmt := w_many_lt hw3.1.2.1 9 p
          have hlt := w_fst_lt (fun d => w_many (vw (b_yr b (b_y b + d)) 9 p)) (some 0, w_many (vw b 9 p)) 100 (by have := w_many_lt h.1.2.1 9 p; show w_many _ < 100; omega) i (fun k hk => by have := w_many_lt (b := b_yr b (b_y b + k)) ⟨h.1.2.1.1, by show b_y b + k < 2000; omega, h.1.2.1.2.2⟩ 9 p; show w_many _ < 100; omega)
          have ee : w_fst (fun d => w_many (vw (b_yr b (b_y b + d)) 9 p)) (some 0, w_many (vw b 9 p)) (i + 1) = if w_many (vw (b_yr b (b_y b + i)) 9 p) < (w_fst (fun d => w_many (vw (b_yr b (b_y b + d)) 9 p)) (some 0, w_many (vw b 9 p)) i).2 then (some i, w_many (vw (b_yr b (b_y b + i)) 9 p)) else (w_fst (fun d => w_many (vw (b_yr b (b_y b + d)) 9 p)) (some 0, w_many (vw b 9 p)) i) := rfl
          have goon := fun z => ih (i + 1) (by omega) (by omega) (by omega) I3 z hj3
          rw [ee] at goon
          refine v_istore (pc := 61) dX12_next_61 (by decide) rfl ?_
          refine v_iload (pc := 63) dX12_next_63 rfl ?_
          refine v_iload (pc := 65) dX12_next_65 rfl ?_
          refine v_icmp_ltN (pc := 67) (tgt := 73) ⟨by omega, by omega⟩ dX12_next_67 (by decide) (fun c67 => ?_) (fun c67 => ?_)
          · refine v_iload (pc := 73) dX12_next_73 rfl ?_
            refine v_istore (pc := 75) dX12_next_75 (by decide) rfl ?_
            refine v_iload (pc := 77) dX12_next_77 rfl ?_
            refine v_istore (pc := 79) dX12_next_79 (by decide) rfl ?_
            refine v_iincN (pc := 81) (b := 1) dX12_next_81 rfl (by decide) (by decide) rfl ?_
            refine v_goto (pc := 84) (tgt := 43) dX12_next_84 (by decide) ?_
            first
              | (rw [if_pos c67] at goon; exact goon _)
              | (rw [if_neg (by omega)] at goon; exact goon _)
          · refine v_goto (pc := 70) (tgt := 81) dX12_next_70 (by decide) ?_
            refine v_iincN (pc := 81) (b := 1) dX12_next_81 rfl (by decide) (by decide) rfl ?_
            refine v_goto (pc := 84) (tgt := 43) dX12_next_84 (by decide) ?_
            first
              | (rw [if_pos c67] at goon; exact goon _)
              | (rw [if_neg (by omega)] at goon; exact goon _)
      have e1 : w_fst (fun d => w_many (vw (b_yr b (b_y b + d)) 9 p)) (some 0, w_many (vw b 9 p)) 1 = (some 0, w_many (vw b 9 p)) := if_neg (Nat.lt_irrefl _)
      have kk := key 1 (by omega) (by omega) I2 none (by rw [v_u_id ((mJ_f m2.1 (by decide)).trans (MVy h.1))]; exact m2.1)
      rw [e1] at kk
      exact kk
    · have e3 : x_nat nn 61 = none := x_nat_n (fun z => c20 (v_in_iff (by decide) |>.mpr z))
      have e2 : x_nat ww 2 ≠ none := by rcases hw2 with rfl | rfl <;> decide
      refine v_bipush (pc := 23) (v := -2) dX12_next_23 (by decide) ?_
      exact v_iret (pc := 25) dX12_next_25 rfl rfl (Nat.le_of_ble_eq_true rfl) (Nat.le_of_ble_eq_true rfl) ⟨by first | (simp only [s_next, e2]; done) | (simp only [s_next, e3]; split <;> first | rfl | (exfalso; apply e2; assumption) | simp_all), I, rfl, mJ_rf⟩
  · have e2 : x_nat ww 2 = none := x_nat_n (fun z => c7 (v_in_iff (by decide) |>.mpr z))
    refine v_iconst (pc := 10) (v := -1) dX12_next_10 (by decide) ?_
    exact v_iret (pc := 11) dX12_next_11 rfl rfl (Nat.le_of_ble_eq_true rfl) (Nat.le_of_ble_eq_true rfl) ⟨by first | (simp only [s_next, e2]; done) | (simp only [s_next, e3]; split <;> first | rfl | (exfalso; apply e2; assumption) | simp_all), I, rfl, mJ_rf⟩
