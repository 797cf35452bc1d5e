/-! THE REFERENCE: clauses -/
/-- only the pile has changed -/
def mP (I I' : Nat → Nat → Int32) : Prop := ∀ a b, a ≠ 70 → I' a b = I a b
theorem mP_rf {I : Nat → Nat → Int32} : mP I I := fun _ _ _ => rfl
theorem mP_tr {I I' I'' : Nat → Nat → Int32} (h : mP I I') (h' : mP I' I'') : mP I I'' := fun a b n => (h' a b n).trans (h a b n)
theorem mP_u {I I' : Nat → Nat → Int32} {k : Nat} {x : Int32} (h : mP I I') : mP I (v_u I' 70 k x) := fun a b n => by rw [v_u_h n]; exact h a b n
/-- scratch: what no later call looks at -/
def m_jk (a b : Nat) : Prop := a = 70 ∨ a = 71 ∨ a = 72 ∨ a = 68 ∨ (a = 55 ∧ (b = 26 ∨ b = 27 ∨ b = 11 ∨ b = 12 ∨ b = 21 ∨ b = 22 ∨ b = 23))
def mJ (I I' : Nat → Nat → Int32) : Prop := ∀ a b, ¬ m_jk a b → I' a b = I a b
theorem mJ_rf {I : Nat → Nat → Int32} : mJ I I := fun _ _ _ => rfl
theorem mJ_tr {I I' I'' : Nat → Nat → Int32} (h : mJ I I') (h' : mJ I' I'') : mJ I I'' := fun a b n => (h' a b n).trans (h a b n)
theorem mP_J {I I' : Nat → Nat → Int32} (h : mP I I') : mJ I I' := fun a b n => h a b (fun e => n (Or.inl e))
theorem mJ_h {I I' : Nat → Nat → Int32} (h : mJ I I') {a b : Nat} (n : a ≠ 70 ∧ a ≠ 71 ∧ a ≠ 72 ∧ a ≠ 68 ∧ a ≠ 55) : I' a b = I a b := h a b (fun z => by
  rcases z with z | z | z | z | z
  · exact n.1 z
  · exact n.2.1 z
  · exact n.2.2.1 z
  · exact n.2.2.2.1 z
  · exact n.2.2.2.2 z.1)
theorem mJ_f {I I' : Nat → Nat → Int32} (h : mJ I I') {b : Nat} (n : b ≠ 26 ∧ b ≠ 27 ∧ b ≠ 11 ∧ b ≠ 12 ∧ b ≠ 21 ∧ b ≠ 22 ∧ b ≠ 23) : I' 55 b = I 55 b := h 55 b (fun z => by
  rcases z with z | z | z | z | ⟨-, z⟩
  · exact absurd z (by decide)
  · exact absurd z (by decide)
  · exact absurd z (by decide)
  · exact absurd z (by decide)
  · omega)
theorem MB_J {I I' : Nat → Nat → Int32} {b : BS} (h : MB I b) (j : mJ I I') : MB I' b :=
  ⟨(mJ_f j (by decide)).trans h.1, (mJ_f j (by decide)).trans h.2.1, fun i hi => (mJ_h j (by decide)).trans (h.2.2.1 i hi), fun i hi => (mJ_h j (by decide)).trans (h.2.2.2.1 i hi), fun i hi => (mJ_h j (by decide)).trans (h.2.2.2.2.1 i hi), fun i hi => (mJ_h j (by decide)).trans (h.2.2.2.2.2 i hi)⟩
theorem MG_J {I I' : Nat → Nat → Int32} {g : Nat} (h : MG I g) (j : mJ I I') : MG I' g := h.elim (fun z => Or.inl ⟨z.1, (mJ_f j (by decide)).trans z.2⟩) (fun z => Or.inr ⟨z.1, (mJ_f j (by decide)).trans z.2⟩)
theorem MPt_J {I I' : Nat → Nat → Int32} {f : Nat} {p : List (Nat × Nat × List Nat)} (h : MPt I f p) (j : mJ I I') : MPt I' f p := by
  refine ⟨h.1, h.2.1, (mJ_h j (by decide)).trans h.2.2.1, fun c q hq => ?_⟩
  obtain ⟨h1, h2, s, h3, h4, h5, h6⟩ := h.2.2.2 c q hq
  exact ⟨(mJ_h j (by decide)).trans h1, (mJ_h j (by decide)).trans h2, s, (mJ_h j (by decide)).trans h3, (mJ_h j (by decide)).trans h4, h5, fun i k hk => (mJ_h j (by decide)).trans (h6 i k hk)⟩
theorem MP_J {I I' : Nat → Nat → Int32} {p : List (Nat × Nat × List Nat)} (h : MP I p) (j : mJ I I') : MP I' p := h.elim (fun z => Or.inl ⟨z.1, (mJ_f j (by decide)).trans z.2⟩) (fun ⟨f, z1, z2⟩ => Or.inr ⟨f, (mJ_f j (by decide)).trans z1, MPt_J z2 j⟩)
theorem MV_J {I I' : Nat → Nat → Int32} {b : BS} {g : Nat} (h : MV I b g) (j : mJ I I') : MV I' b g := ⟨MB_J h.1 j, h.2.1, MG_J h.2.2 j⟩
theorem MW_J {I I' : Nat → Nat → Int32} {b : BS} {g : Nat} {p : List (Nat × Nat × List Nat)} (h : MW I b g p) (j : mJ I I') : MW I' b g p := ⟨MV_J h.1 j, MP_J h.2 j⟩
/-- the pile holds what waits, the newest highest -/
def PL (I : Nat → Nat → Int32) : List Bool → Prop
  | [] => True
  | b :: r => I 70 r.length = v_p (b = true) ∧ PL I r
theorem PL_u {I : Nat → Nat → Int32} {k : Nat} {x : Int32} : ∀ {s : List Bool}, PL I s → s.length ≤ k → PL (v_u I 70 k x) s
  | [], _, _ => trivial
  | b :: r, h, hk => ⟨by rw [v_u_k (by have : r.length + 1 ≤ k := hk; omega)]; exact h.1, PL_u h.2 (by have : r.length + 1 ≤ k := hk; omega)⟩
theorem v_n1 : vp_nar .boolean (nI 1) = nI 1 := rfl
theorem v_n0 : vp_nar .boolean (nI 0) = nI 0 := rfl
theorem m_ne {m : Nat} (h : m < 6000) : ¬ nI m = -33 := by
  intro q
  have := congrArg Int32.toInt q
  rw [nI_toInt (by omega)] at this
  have e : (-33 : Int32).toInt = -33 := rfl
  rw [e] at this
  omega
theorem w_fact_lt (w : VW) {a b : Nat} (ha : a < 7) (hb : b < 7) (f : Nat) : w_fact w a b f < 10 := by
  have h1 := w_deg_le w a
  have h2 := w_deg_le w b
  unfold w_fact
  split <;> (try split) <;> omega
theorem w_deps_len {f : Nat → Nat} {k d d' : Nat} {s : List Bool} (h : w_dep k d = some d') (hs : s.length = d) : (w_step f k s).length = d' := by
  match k, h with
  | 0, h =>
    have h : (if 1 ≤ d then some d else none) = some d' := h
    by_cases c : 1 ≤ d
    · rw [if_pos c] at h
      cases h
      match s, hs with
      | [], hs => simp at hs; omega
      | b :: r, hs => exact hs
    · rw [if_neg c] at h; cases h
  | 1, h =>
    have h : (if 2 ≤ d then some (d - 1) else none) = some d' := h
    by_cases c : 2 ≤ d
    · rw [if_pos c] at h
      cases h
      match s, hs with
      | [], hs => simp at hs; omega
      | [b], hs => simp at hs; omega
      | b :: a :: r, hs => show r.length + 1 = d - 1; simp at hs; omega
    · rw [if_neg c] at h; cases h
  | 2, h =>
    have h : (if 2 ≤ d then some (d - 1) else none) = some d' := h
    by_cases c : 2 ≤ d
    · rw [if_pos c] at h
      cases h
      match s, hs with
      | [], hs => simp at hs; omega
      | [b], hs => simp at hs; omega
      | b :: a :: r, hs => show r.length + 1 = d - 1; simp at hs; omega
    · rw [if_neg c] at h; cases h
  | t + 3, h =>
    have h : (if t < 1800 ∧ d < 30 then some (d + 1) else none) = some d' := h
    by_cases c : t < 1800 ∧ d < 30
    · rw [if_pos c] at h
      cases h
      show s.length + 1 = d + 1
      omega
    · rw [if_neg c] at h; cases h
theorem w_dep_lt {k d d' : Nat} (h : w_dep k d = some d') (hd : d < 31) : d' < 31 := by
  match k, h with
  | 0, h =>
    have h : (if 1 ≤ d then some d else none) = some d' := h
    by_cases c : 1 ≤ d
    · rw [if_pos c] at h; cases h; omega
    · rw [if_neg c] at h; cases h
  | 1, h =>
    have h : (if 2 ≤ d then some (d - 1) else none) = some d' := h
    by_cases c : 2 ≤ d
    · rw [if_pos c] at h; cases h; omega
    · rw [if_neg c] at h; cases h
  | 2, h =>
    have h : (if 2 ≤ d then some (d - 1) else none) = some d' := h
    by_cases c : 2 ≤ d
    · rw [if_pos c] at h; cases h; omega
    · rw [if_neg c] at h; cases h
  | t + 3, h =>
    have h : (if t < 1800 ∧ d < 30 then some (d + 1) else none) = some d' := h
    by_cases c : t < 1800 ∧ d < 30
    · rw [if_pos c] at h; cases h; omega
    · rw [if_neg c] at h; cases h
theorem w_sumc_app (f : Nat → Nat) (w : Nat) : ∀ (a b : List (Nat × Nat × List Nat)), w_sumc f w (a ++ b) = w_sumc f w a + w_sumc f w b
  | [], b => by simp [w_sumc]
  | c :: a, b => by simp [w_sumc, w_sumc_app f w a b, Nat.add_assoc]
theorem w_any_app (w : Nat) (a b : List (Nat × Nat × List Nat)) : w_any w (a ++ b) = (w_any w a || w_any w b) := by simp [w_any]
theorem w_take {α : Type} {l : List α} {j : Nat} {q : α} (h : l[j]? = some q) : l.take (j + 1) = l.take j ++ [q] := by rw [List.take_succ, h]; rfl
theorem tok_cases (k : Nat) : k = 0 ∨ k = 1 ∨ k = 2 ∨ ∃ t, k = t + 3 := match k with
  | 0 => Or.inl rfl
  | 1 => Or.inr (Or.inl rfl)
  | 2 => Or.inr (Or.inr (Or.inl rfl))
  | t + 3 => Or.inr (Or.inr (Or.inr ⟨t, rfl⟩))
theorem dep_0 {s : List Bool} {d : Nat} (h : w_dep 0 s.length = some d) : ∃ b r, s = b :: r := by
  match s, h with
  | b :: r, _ => exact ⟨b, r, rfl⟩
theorem dep_1 {s : List Bool} {d : Nat} (h : w_dep 1 s.length = some d) : ∃ b a r, s = b :: a :: r := by
  match s, h with
  | [], h => cases h
  | [_], h => cases h
  | b :: a :: r, _ => exact ⟨b, a, r, rfl⟩
theorem dep_2 {s : List Bool} {d : Nat} (h : w_dep 2 s.length = some d) : ∃ b a r, s = b :: a :: r := by
  match s, h with
  | [], h => cases h
  | [_], h => cases h
  | b :: a :: r, _ => exact ⟨b, a, r, rfl⟩
theorem dep_t {t n d : Nat} (h : w_dep (t + 3) n = some d) : t < 1800 ∧ n < 30 := by
  have h : (if t < 1800 ∧ n < 30 then some (n + 1) else none) = some d := h
  by_cases c : t < 1800 ∧ n < 30
  · exact c
  · rw [if_neg c] at h; cases h
/-- a boolean's new place, by what it is -/
theorem v_pp {P : Prop} {x : Int32} (h1 : P → x = nI 1) (h0 : ¬ P → x = nI 0) : x = v_p P := by
  by_cases h : P
  · rw [h1 h, v_p_t h]; rfl
  · rw [h0 h, v_p_f h]; rfl
theorem w_run_app (f : Nat → Nat) (a : List Nat) (k : Nat) (s : List Bool) : w_run f (a ++ [k]) s = w_step f k (w_run f a s) := by simp [w_run]
abbrev rm_X12_factOf : Room := { frames := 2, cells := 0, slots := 0, locals := 44 }
set_option maxRecDepth 20000 in
theorem c_X12_factOf (G : v_G) (l : Launch) {K : Nat × v_TY} {I : Nat → Nat → Int32} {J : Nat → Nat → Int64} {R : Nat → Nat → Option Nat} (hL : Lay K R) {f a c : Nat} {b : BS} {g : Nat} {q : List (Nat × Nat × List Nat)} (h : MV I b g) (hf : f < 6) (hp : a < 7 ∧ c < 7) (hpg : a ≠ g ∧ c ≠ g) : v_M G l yX12_factOf cX12_factOf 4 (some .int) rm_X12_factOf [.ref 55, .int (nI f), .int (nI a), .int (nI c)] (K, I, J, R) (v_Qi G (fun (x : Int32) (M' : v_MM) => x = nI (w_fact (vw b g q) a c f) ∧ M' = (K, I, J, R))) := by
  refine v_of [some (.ref 55), some (.int (nI f)), some (.int (nI a)), some (.int (nI c))] (by decide) (Nat.le_of_ble_eq_true rfl) (Nat.le_of_ble_eq_true rfl) rfl ?_
  have hy := VBy h
  refine v_iload_n (pc := 0) dX12_factOf_0 rfl rfl ?_
  rcases (show f = 0 ∨ f = 1 ∨ f = 2 ∨ f = 3 ∨ f = 4 ∨ f = 5 by omega) with k0 | k0 | k0 | k0 | k0 | k0
  · subst k0
    refine v_tableIn (pc := 1) (tgt := 36) dX12_factOf_1 (by decide) (by decide) rfl (by decide) ?_
    refine v_iload_n (pc := 36) dX12_factOf_36 rfl rfl ?_
    exact v_iret (pc := 37) dX12_factOf_37 rfl rfl (Nat.le_of_ble_eq_true rfl) (Nat.le_of_ble_eq_true rfl) ⟨by first | rfl | (show _ = nI (if w_a (vw b g q) a c = true then 1 else 0); rw [w_bt (by omega), vw_a]; simp [hpg]), rfl⟩
  · subst k0
    refine v_tableIn (pc := 1) (tgt := 38) dX12_factOf_1 (by decide) (by decide) rfl (by decide) ?_
    refine v_iload_n (pc := 38) dX12_factOf_38 rfl rfl ?_
    exact v_iret (pc := 39) dX12_factOf_39 rfl rfl (Nat.le_of_ble_eq_true rfl) (Nat.le_of_ble_eq_true rfl) ⟨by first | rfl | (show _ = nI (if w_a (vw b g q) a c = true then 1 else 0); rw [w_bt (by omega), vw_a]; simp [hpg]), rfl⟩
  · subst k0
    refine v_tableIn (pc := 1) (tgt := 40) dX12_factOf_1 (by decide) (by decide) rfl (by decide) ?_
    refine v_aload_n (pc := 40) dX12_factOf_40 rfl rfl ?_
    refine v_getH (pc := 41) fg_X12_26_12 dX12_factOf_41 (li_55 hL) (lr_55_5 hL) ?_
    refine v_iload_n (pc := 44) dX12_factOf_44 rfl rfl ?_
    refine v_ialoadN (pc := 45) dX12_factOf_45 (li_58 hL) ⟨by omega, by omega⟩ (MVm h hp.1) ?_
    refine v_iload_n (pc := 46) dX12_factOf_46 rfl rfl ?_
    refine v_ishr (pc := 47) dX12_factOf_47 ?_
    refine v_iconst (pc := 48) (v := nI 1) dX12_factOf_48 (by decide) ?_
    refine v_iand (pc := 49) dX12_factOf_49 ?_
    refine v_top (v_hasV (by omega)) ?_
    exact v_iret (pc := 50) dX12_factOf_50 rfl rfl (Nat.le_of_ble_eq_true rfl) (Nat.le_of_ble_eq_true rfl) ⟨by first | rfl | (show _ = nI (if w_a (vw b g q) a c = true then 1 else 0); rw [w_bt (by omega), vw_a]; simp [hpg]), rfl⟩
  · subst k0
    refine v_tableIn (pc := 1) (tgt := 51) dX12_factOf_1 (by decide) (by decide) rfl (by decide) ?_
    refine v_aload_n (pc := 51) dX12_factOf_51 rfl rfl ?_
    refine v_iload_n (pc := 52) dX12_factOf_52 rfl rfl ?_
    refine v_ci (pc := 53) (v_rV (c_X12_manyOf G l hL (q := q) h (by omega) (by omega)) rfl kV_X12_276 (v_rcO (li_55 hL) rfl (by decide)) ⟨Nat.le_of_ble_eq_true rfl, Nat.le_of_ble_eq_true rfl⟩ ⟨Nat.le_of_ble_eq_true rfl, Nat.le_of_ble_eq_true rfl⟩ dX12_factOf_53 (Nat.le_of_ble_eq_true rfl)) (fun x53 M53 h53 => ?_)
    obtain ⟨rfl, rfl⟩ := h53
    exact v_iret (pc := 56) dX12_factOf_56 rfl rfl (Nat.le_of_ble_eq_true rfl) (Nat.le_of_ble_eq_true rfl) ⟨by first | rfl | (show _ = nI (if w_a (vw b g q) a c = true then 1 else 0); rw [w_bt (by omega), vw_a]; simp [hpg]), rfl⟩
  · subst k0
    refine v_tableIn (pc := 1) (tgt := 57) dX12_factOf_1 (by decide) (by decide) rfl (by decide) ?_
    refine v_aload_n (pc := 57) dX12_factOf_57 rfl rfl ?_
    refine v_iload_n (pc := 58) dX12_factOf_58 rfl rfl ?_
    refine v_ci (pc := 59) (v_rV (c_X12_manyOf G l hL (q := q) h (by omega) (by omega)) rfl kV_X12_276 (v_rcO (li_55 hL) rfl (by decide)) ⟨Nat.le_of_ble_eq_true rfl, Nat.le_of_ble_eq_true rfl⟩ ⟨Nat.le_of_ble_eq_true rfl, Nat.le_of_ble_eq_true rfl⟩ dX12_factOf_59 (Nat.le_of_ble_eq_true rfl)) (fun x59 M59 h59 => ?_)
    obtain ⟨rfl, rfl⟩ := h59
    exact v_iret (pc := 62) dX12_factOf_62 rfl rfl (Nat.le_of_ble_eq_true rfl) (Nat.le_of_ble_eq_true rfl) ⟨by first | rfl | (show _ = nI (if w_a (vw b g q) a c = true then 1 else 0); rw [w_bt (by omega), vw_a]; simp [hpg]), rfl⟩
  · subst k0
    refine v_tableOut (pc := 1) (tgt := 63) dX12_factOf_1 (by decide) (by decide) ?_
    refine v_aload_n (pc := 63) dX12_factOf_63 rfl rfl ?_
    refine v_getV (pc := 64) fg_X12_13_12 dX12_factOf_64 (li_55 hL) (MVy h) ?_
    refine v_bipush (pc := 67) (v := nI 10) dX12_factOf_67 (by decide) ?_
    refine v_iremN (pc := 69) (by omega) (by omega) (by omega) dX12_factOf_69 ?_
    exact v_iret (pc := 70) dX12_factOf_70 rfl rfl (Nat.le_of_ble_eq_true rfl) (Nat.le_of_ble_eq_true rfl) ⟨by first | rfl | (show _ = nI (if w_a (vw b g q) a c = true then 1 else 0); rw [w_bt (by omega), vw_a]; simp [hpg]), rfl⟩
abbrev rm_X12_begin : Room := { frames := 0, cells := 0, slots := 0, locals := 0 }
set_option maxRecDepth 20000 in
theorem c_X12_begin (G : v_G) (l : Launch) {K : Nat × v_TY} {I : Nat → Nat → Int32} {J : Nat → Nat → Int64} {R : Nat → Nat → Option Nat} (hL : Lay K R) {f : Nat} (hf : f < 6 ∧ I 55 9 = nI f ∨ f = 0 ∧ I 55 9 = -1) : v_M G l yX12_begin cX12_begin 1 (some .int) rm_X12_begin [.ref 55] (K, I, J, R) (v_Qi G (fun (x : Int32) (M' : v_MM) => x = nI (10 * f) ∧ M' = (K, I, J, R))) := by
  refine v_of [some (.ref 55)] (by decide) (Nat.le_of_ble_eq_true rfl) (Nat.le_of_ble_eq_true rfl) rfl ?_
  rcases hf with ⟨h1, h2⟩ | ⟨h1, h2⟩
  · refine v_aload_n (pc := 0) dX12_begin_0 rfl rfl ?_
    refine v_getV (pc := 1) fg_X12_38_12 dX12_begin_1 (li_55 hL) h2 ?_
    refine v_if_geN (pc := 4) (tgt := 11) (by omega) dX12_begin_4 (by decide) ?_
    refine v_bipush (pc := 11) (v := nI 10) dX12_begin_11 (by decide) ?_
    refine v_aload_n (pc := 13) dX12_begin_13 rfl rfl ?_
    refine v_getV (pc := 14) fg_X12_38_12 dX12_begin_14 (li_55 hL) h2 ?_
    refine v_imulN (pc := 17) dX12_begin_17 ?_
    exact v_iret (pc := 18) dX12_begin_18 rfl rfl (Nat.le_of_ble_eq_true rfl) (Nat.le_of_ble_eq_true rfl) ⟨rfl, rfl⟩
  · subst h1
    refine v_aload_n (pc := 0) dX12_begin_0 rfl rfl ?_
    refine v_getV (pc := 1) fg_X12_38_12 dX12_begin_1 (li_55 hL) h2 ?_
    refine v_if_ge (pc := 4) (tgt := 11) dX12_begin_4 (by decide) (fun c4 => ?_) (fun c4 => ?_)
    · exact absurd c4 (by decide)
    · refine v_iconst (pc := 7) (v := nI 0) dX12_begin_7 (by decide) ?_
      refine v_goto (pc := 8) (tgt := 18) dX12_begin_8 (by decide) ?_
      exact v_iret (pc := 18) dX12_begin_18 rfl rfl (Nat.le_of_ble_eq_true rfl) (Nat.le_of_ble_eq_true rfl) ⟨rfl, rfl⟩
abbrev rm_X12_behind : Room := { frames := 0, cells := 0, slots := 0, locals := 0 }
set_option maxRecDepth 20000 in
theorem c_X12_behind (G : v_G) (l : Launch) {K : Nat × v_TY} {I : Nat → Nat → Int32} {J : Nat → Nat → Int64} {R : Nat → Nat → Option Nat} (hL : Lay K R) {f n : Nat} (hf : (f < 6 ∧ I 55 9 = nI f ∧ I 62 f = nI n) ∨ f = 0 ∧ n = 0 ∧ I 55 9 = -1) : v_M G l yX12_behind cX12_behind 1 (some .int) rm_X12_behind [.ref 55] (K, I, J, R) (v_Qi G (fun (x : Int32) (M' : v_MM) => x = nI (10 * f + n) ∧ M' = (K, I, J, R))) := by
  refine v_of [some (.ref 55)] (by decide) (Nat.le_of_ble_eq_true rfl) (Nat.le_of_ble_eq_true rfl) rfl ?_
  rcases hf with ⟨h1, h2, h3⟩ | ⟨h1, h3, h2⟩
  · refine v_aload_n (pc := 0) dX12_behind_0 rfl rfl ?_
    refine v_getV (pc := 1) fg_X12_38_12 dX12_behind_1 (li_55 hL) h2 ?_
    refine v_if_geN (pc := 4) (tgt := 11) (by omega) dX12_behind_4 (by decide) ?_
    refine v_bipush (pc := 11) (v := nI 10) dX12_behind_11 (by decide) ?_
    refine v_aload_n (pc := 13) dX12_behind_13 rfl rfl ?_
    refine v_getV (pc := 14) fg_X12_38_12 dX12_behind_14 (li_55 hL) h2 ?_
    refine v_imulN (pc := 17) dX12_behind_17 ?_
    refine v_aload_n (pc := 18) dX12_behind_18 rfl rfl ?_
    refine v_getH (pc := 19) fg_X12_53_12 dX12_behind_19 (li_55 hL) (lr_55_14 hL) ?_
    refine v_aload_n (pc := 22) dX12_behind_22 rfl rfl ?_
    refine v_getV (pc := 23) fg_X12_38_12 dX12_behind_23 (li_55 hL) h2 ?_
    refine v_ialoadN (pc := 26) dX12_behind_26 (li_62 hL) ⟨by omega, by omega⟩ h3 ?_
    refine v_iaddN (pc := 27) dX12_behind_27 ?_
    exact v_iret (pc := 28) dX12_behind_28 rfl rfl (Nat.le_of_ble_eq_true rfl) (Nat.le_of_ble_eq_true rfl) ⟨rfl, rfl⟩
  · subst h1; subst h3
    refine v_aload_n (pc := 0) dX12_behind_0 rfl rfl ?_
    refine v_getV (pc := 1) fg_X12_38_12 dX12_behind_1 (li_55 hL) h2 ?_
    refine v_if_ge (pc := 4) (tgt := 11) dX12_behind_4 (by decide) (fun c4 => ?_) (fun c4 => ?_)
    · exact absurd c4 (by decide)
    · refine v_iconst (pc := 7) (v := nI 0) dX12_behind_7 (by decide) ?_
      refine v_goto (pc := 8) (tgt := 28) dX12_behind_8 (by decide) ?_
      exact v_iret (pc := 28) dX12_behind_28 rfl rfl (Nat.le_of_ble_eq_true rfl) (Nat.le_of_ble_eq_true rfl) ⟨rfl, rfl⟩
abbrev rm_X12_holds : Room := { frames := 3, cells := 0, slots := 0, locals := 67 }
set_option maxRecDepth 20000 in
theorem c_X12_holds (G : v_G) (l : Launch) {K : Nat × v_TY} {I : Nat → Nat → Int32} {J : Nat → Nat → Int64} {R : Nat → Nat → Option Nat} (hL : Lay K R) {cc a c s : Nat} {ks : List Nat} {b : BS} {g : Nat} {q : List (Nat × Nat × List Nat)} (h : MV I b g) (hp : a < 7 ∧ c < 7) (hpg : a ≠ g ∧ c ≠ g) (hc : cc < 60) (hs : I 65 cc = nI s ∧ I 66 cc = nI (s + ks.length) ∧ s + ks.length ≤ 600) (hk : ∀ j k : Nat, ks[j]? = some k → I 67 (s + j) = m_tok k) (hd : w_deps ks 0 = some 1) : v_M G l yX12_holds cX12_holds 9 (some .boolean) rm_X12_holds [.ref 55, .int (nI cc), .int (nI a), .int (nI c)] (K, I, J, R) (v_Qi G (fun (x : Int32) (M' : v_MM) => x = v_p (w_holds (w_fact (vw b g q) a c) ks = true) ∧ ∃ I', M' = (K, I', J, R) ∧ mP I I')) := by
  refine v_of [some (.ref 55), some (.int (nI cc)), some (.int (nI a)), some (.int (nI c)), none, none, none, none, none] (by decide) (Nat.le_of_ble_eq_true rfl) (Nat.le_of_ble_eq_true rfl) rfl ?_
  have key : ∀ j, j ≤ ks.length → ∀ (Ii : Nat → Nat → Int32) (st : List Bool) (z6 z7 z8 : Option Value), mP I Ii → st = w_run (w_fact (vw b g q) a c) (ks.take j) [] → PL Ii st → w_deps (ks.drop j) st.length = some 1 → st.length < 31 → v_V G l yX12_holds cX12_holds 9 (some .boolean) rm_X12_holds (v_Qi G (fun (x : Int32) (M' : v_MM) => x = v_p (w_holds (w_fact (vw b g q) a c) ks = true) ∧ ∃ I', M' = (K, I', J, R) ∧ mP I I')) 0 0 11 [some (.ref 55), some (.int (nI cc)), some (.int (nI a)), some (.int (nI c)), some (.int (nI st.length)), some (.int (nI (s + j))), z6, z7, z8] [] (K, Ii, J, R) := by
    refine v_down ks.length (fun j hj ih => ?_)
    intro Ii st z6 z7 z8 hm hst hpl hdp hlen
    have hv := MV_J h (mP_J hm)
    have hto : Ii 66 cc = nI (s + ks.length) := (hm _ _ (by decide)).trans hs.2.1
    refine v_iload (pc := 11) dX12_holds_11 rfl ?_
    refine v_aload_n (pc := 13) dX12_holds_13 rfl rfl ?_
    refine v_getH (pc := 14) fg_X12_65_12 dX12_holds_14 (li_55 hL) (lr_55_18 hL) ?_
    refine v_iload_n (pc := 17) dX12_holds_17 rfl rfl ?_
    refine v_ialoadN (pc := 18) dX12_holds_18 (li_66 hL) ⟨by omega, by omega⟩ hto ?_
    refine v_icmp_geN (pc := 19) (tgt := 253) ⟨by omega, by omega⟩ dX12_holds_19 (by decide) (fun c19 => ?_) (fun c19 => ?_)
    · have hj2 : j = ks.length := by omega
      subst hj2
      have hfin : Ii 70 0 = v_p (w_holds (w_fact (vw b g q) a c) ks = true) := by
        rw [List.drop_length] at hdp
        rw [List.take_length] at hst
        have hl1 : st.length = 1 := Option.some.inj hdp
        match st, hl1, hpl, hst with
        | [bb], _, hpl, hst => rw [w_holds, ← hst]; exact hpl.1
      refine v_aload_n (pc := 253) dX12_holds_253 rfl rfl ?_
      refine v_getH (pc := 254) fg_X12_86_12 dX12_holds_254 (li_55 hL) (lr_55_25 hL) ?_
      refine v_iconst (pc := 257) (v := nI 0) dX12_holds_257 (by decide) ?_
      refine v_zaloadN (pc := 258) dX12_holds_258 (li_70 hL) ⟨by omega, by omega⟩ hfin ?_
      exact v_iret (pc := 259) dX12_holds_259 rfl (v_p_z rfl) (Nat.le_of_ble_eq_true rfl) (Nat.le_of_ble_eq_true rfl) ⟨rfl, Ii, rfl, hm⟩
    · obtain ⟨k, hkj⟩ : ∃ k, ks[j]? = some k := ⟨_, List.getElem?_eq_getElem (show j < ks.length by omega)⟩
      have hsg : Ii 67 (s + j) = m_tok k := (hm _ _ (by decide)).trans (hk j k hkj)
      rw [List.drop_eq_getElem_cons (show j < ks.length by omega), show ks[j] = k from Option.some.inj ((List.getElem?_eq_getElem (show j < ks.length by omega)).symm.trans hkj)] at hdp
      obtain ⟨d2, hd2, hd3⟩ := Option.bind_eq_some_iff.mp (show (w_dep k st.length).bind (w_deps (ks.drop (j + 1))) = some 1 from hdp)
      have hlen2 := w_dep_lt hd2 hlen
      have hrun : w_step (w_fact (vw b g q) a c) k st = w_run (w_fact (vw b g q) a c) (ks.take (j + 1)) [] := by rw [w_take hkj, w_run_app, ← hst]
      have hst2 : (w_step (w_fact (vw b g q) a c) k st).length = d2 := w_deps_len hd2 rfl
      rcases tok_cases k with rfl | rfl | rfl | ⟨t, rfl⟩
      · obtain ⟨b1, r, rfl⟩ := dep_0 hd2
        have hr : r.length + 1 < 31 := hlen
        refine v_lvs (lv' := [some (.ref 55), some (.int (nI cc)), some (.int (nI a)), some (.int (nI c)), some (.int (nI (r.length + 1))), some (.int (nI (s + j))), z6, z7, z8]) rfl ?_
        refine v_aload_n (pc := 22) dX12_holds_22 rfl rfl ?_
        refine v_getH (pc := 23) fg_X12_68_12 dX12_holds_23 (li_55 hL) (lr_55_19 hL) ?_
        refine v_iload (pc := 26) dX12_holds_26 rfl ?_
        refine v_ialoadN (pc := 28) dX12_holds_28 (li_67 hL) ⟨by omega, by omega⟩ hsg ?_
        refine v_istore (pc := 29) dX12_holds_29 (by decide) rfl ?_
        refine v_iload (pc := 31) dX12_holds_31 rfl ?_
        refine v_bipush (pc := 33) (v := -33) dX12_holds_33 (by decide) ?_
        refine v_icmp_ne (pc := 35) (tgt := 67) dX12_holds_35 (by decide) (fun c35 => ?_) (fun c35 => ?_)
        · exact absurd rfl c35
        · refine v_aload_n (pc := 38) dX12_holds_38 rfl rfl ?_
          refine v_getH (pc := 39) fg_X12_86_12 dX12_holds_39 (li_55 hL) (lr_55_25 hL) ?_
          refine v_iload (pc := 42) dX12_holds_42 rfl ?_
          refine v_iconst (pc := 44) (v := nI 1) dX12_holds_44 (by decide) ?_
          refine v_isubN (pc := 45) (by omega) dX12_holds_45 ?_
          refine v_aload_n (pc := 46) dX12_holds_46 rfl rfl ?_
          refine v_getH (pc := 47) fg_X12_86_12 dX12_holds_47 (li_55 hL) (lr_55_25 hL) ?_
          refine v_iload (pc := 50) dX12_holds_50 rfl ?_
          refine v_iconst (pc := 52) (v := nI 1) dX12_holds_52 (by decide) ?_
          refine v_isubN (pc := 53) (by omega) dX12_holds_53 ?_
          refine v_zaloadN (pc := 54) dX12_holds_54 (li_70 hL) ⟨by omega, by omega⟩ hpl.1 ?_
          refine v_if_neP (pc := 55) (tgt := 62) dX12_holds_55 (by decide) (fun c55 => ?_) (fun c55 => ?_)
          · refine v_iconst (pc := 62) (v := nI 0) dX12_holds_62 (by decide) ?_
            refine v_zastoreN (pc := 63) dX12_holds_63 (li_70 hL) ⟨by omega, by omega⟩ (by first | exact v_n1 | exact v_n0) ?_
            refine v_goto (pc := 64) (tgt := 247) dX12_holds_64 (by decide) ?_
            refine v_iincN (pc := 247) (b := 1) dX12_holds_247 rfl (by decide) (by decide) rfl ?_
            refine v_goto (pc := 250) (tgt := 11) dX12_holds_250 (by decide) ?_
            refine ih (j + 1) (by omega) (by omega) _ (w_step (w_fact (vw b g q) a c) 0 (b1 :: r)) _ _ _ ?_ hrun ?_ (by rw [hst2]; exact hd3) (by rw [hst2]; exact hlen2)
            · first | exact mP_u hm | exact mP_u (mP_u hm)
            · refine ⟨v_pp (fun z => ?_) (fun z => ?_), PL_u hpl.2 (Nat.le_refl _)⟩ <;> simp_all [v_u, w_step]
          · refine v_iconst (pc := 58) (v := nI 1) dX12_holds_58 (by decide) ?_
            refine v_goto (pc := 59) (tgt := 63) dX12_holds_59 (by decide) ?_
            refine v_zastoreN (pc := 63) dX12_holds_63 (li_70 hL) ⟨by omega, by omega⟩ (by first | exact v_n1 | exact v_n0) ?_
            refine v_goto (pc := 64) (tgt := 247) dX12_holds_64 (by decide) ?_
            refine v_iincN (pc := 247) (b := 1) dX12_holds_247 rfl (by decide) (by decide) rfl ?_
            refine v_goto (pc := 250) (tgt := 11) dX12_holds_250 (by decide) ?_
            refine ih (j + 1) (by omega) (by omega) _ (w_step (w_fact (vw b g q) a c) 0 (b1 :: r)) _ _ _ ?_ hrun ?_ (by rw [hst2]; exact hd3) (by rw [hst2]; exact hlen2)
            · first | exact mP_u hm | exact mP_u (mP_u hm)
            · refine ⟨v_pp (fun z => ?_) (fun z => ?_), PL_u hpl.2 (Nat.le_refl _)⟩ <;> simp_all [v_u, w_step]
      · obtain ⟨b1, b2, r, rfl⟩ := dep_1 hd2
        have hr : r.length + 1 + 1 < 31 := hlen
        refine v_lvs (lv' := [some (.ref 55), some (.int (nI cc)), some (.int (nI a)), some (.int (nI c)), some (.int (nI (r.length + 1 + 1))), some (.int (nI (s + j))), z6, z7, z8]) rfl ?_
        refine v_aload_n (pc := 22) dX12_holds_22 rfl rfl ?_
        refine v_getH (pc := 23) fg_X12_68_12 dX12_holds_23 (li_55 hL) (lr_55_19 hL) ?_
        refine v_iload (pc := 26) dX12_holds_26 rfl ?_
        refine v_ialoadN (pc := 28) dX12_holds_28 (li_67 hL) ⟨by omega, by omega⟩ hsg ?_
        refine v_istore (pc := 29) dX12_holds_29 (by decide) rfl ?_
        refine v_iload (pc := 31) dX12_holds_31 rfl ?_
        refine v_bipush (pc := 33) (v := -33) dX12_holds_33 (by decide) ?_
        refine v_icmp_ne (pc := 35) (tgt := 67) dX12_holds_35 (by decide) (fun c35 => ?_) (fun c35 => ?_)
        · refine v_iload (pc := 67) dX12_holds_67 rfl ?_
          refine v_if_ge (pc := 69) (tgt := 151) dX12_holds_69 (by decide) (fun c69 => ?_) (fun c69 => ?_)
          · exact absurd c69 (by decide)
          · refine v_iinc (pc := 72) (v := -1) dX12_holds_72 rfl (by decide) (by decide) rfl ?_
            rw [show nI (r.length + 1 + 1) + -1 = nI (r.length + 1) from pk_m1 _]
            refine v_aload_n (pc := 75) dX12_holds_75 rfl rfl ?_
            refine v_getH (pc := 76) fg_X12_86_12 dX12_holds_76 (li_55 hL) (lr_55_25 hL) ?_
            refine v_iload (pc := 79) dX12_holds_79 rfl ?_
            refine v_iconst (pc := 81) (v := nI 1) dX12_holds_81 (by decide) ?_
            refine v_isubN (pc := 82) (by omega) dX12_holds_82 ?_
            refine v_iload (pc := 83) dX12_holds_83 rfl ?_
            refine v_bipush (pc := 85) (v := -38) dX12_holds_85 (by decide) ?_
            refine v_icmp_ne (pc := 87) (tgt := 120) dX12_holds_87 (by decide) (fun c87 => ?_) (fun c87 => ?_)
            · exact absurd rfl c87
            · refine v_aload_n (pc := 90) dX12_holds_90 rfl rfl ?_
              refine v_getH (pc := 91) fg_X12_86_12 dX12_holds_91 (li_55 hL) (lr_55_25 hL) ?_
              refine v_iload (pc := 94) dX12_holds_94 rfl ?_
              refine v_iconst (pc := 96) (v := nI 1) dX12_holds_96 (by decide) ?_
              refine v_isubN (pc := 97) (by omega) dX12_holds_97 ?_
              refine v_zaloadN (pc := 98) dX12_holds_98 (li_70 hL) ⟨by omega, by omega⟩ hpl.2.1 ?_
              refine v_if_eqP (pc := 99) (tgt := 116) dX12_holds_99 (by decide) (fun c99 => ?_) (fun c99 => ?_)
              · refine v_iconst (pc := 116) (v := nI 0) dX12_holds_116 (by decide) ?_
                refine v_goto (pc := 117) (tgt := 147) dX12_holds_117 (by decide) ?_
                refine v_zastoreN (pc := 147) dX12_holds_147 (li_70 hL) ⟨by omega, by omega⟩ (by first | exact v_n1 | exact v_n0) ?_
                refine v_goto (pc := 148) (tgt := 247) dX12_holds_148 (by decide) ?_
                refine v_iincN (pc := 247) (b := 1) dX12_holds_247 rfl (by decide) (by decide) rfl ?_
                refine v_goto (pc := 250) (tgt := 11) dX12_holds_250 (by decide) ?_
                refine ih (j + 1) (by omega) (by omega) _ (w_step (w_fact (vw b g q) a c) 1 (b1 :: b2 :: r)) _ _ _ ?_ hrun ?_ (by rw [hst2]; exact hd3) (by rw [hst2]; exact hlen2)
                · first | exact mP_u hm | exact mP_u (mP_u hm)
                · refine ⟨v_pp (fun z => ?_) (fun z => ?_), PL_u hpl.2.2 (Nat.le_refl _)⟩ <;> simp_all [v_u, w_step]
              · refine v_aload_n (pc := 102) dX12_holds_102 rfl rfl ?_
                refine v_getH (pc := 103) fg_X12_86_12 dX12_holds_103 (li_55 hL) (lr_55_25 hL) ?_
                refine v_iload (pc := 106) dX12_holds_106 rfl ?_
                refine v_zaloadN (pc := 108) dX12_holds_108 (li_70 hL) ⟨by omega, by omega⟩ hpl.1 ?_
                refine v_if_eqP (pc := 109) (tgt := 116) dX12_holds_109 (by decide) (fun c109 => ?_) (fun c109 => ?_)
                · refine v_iconst (pc := 116) (v := nI 0) dX12_holds_116 (by decide) ?_
                  refine v_goto (pc := 117) (tgt := 147) dX12_holds_117 (by decide) ?_
                  refine v_zastoreN (pc := 147) dX12_holds_147 (li_70 hL) ⟨by omega, by omega⟩ (by first | exact v_n1 | exact v_n0) ?_
                  refine v_goto (pc := 148) (tgt := 247) dX12_holds_148 (by decide) ?_
                  refine v_iincN (pc := 247) (b := 1) dX12_holds_247 rfl (by decide) (by decide) rfl ?_
                  refine v_goto (pc := 250) (tgt := 11) dX12_holds_250 (by decide) ?_
                  refine ih (j + 1) (by omega) (by omega) _ (w_step (w_fact (vw b g q) a c) 1 (b1 :: b2 :: r)) _ _ _ ?_ hrun ?_ (by rw [hst2]; exact hd3) (by rw [hst2]; exact hlen2)
                  · first | exact mP_u hm | exact mP_u (mP_u hm)
                  · refine ⟨v_pp (fun z => ?_) (fun z => ?_), PL_u hpl.2.2 (Nat.le_refl _)⟩ <;> simp_all [v_u, w_step]
                · refine v_iconst (pc := 112) (v := nI 1) dX12_holds_112 (by decide) ?_
                  refine v_goto (pc := 113) (tgt := 147) dX12_holds_113 (by decide) ?_
                  refine v_zastoreN (pc := 147) dX12_holds_147 (li_70 hL) ⟨by omega, by omega⟩ (by first | exact v_n1 | exact v_n0) ?_
                  refine v_goto (pc := 148) (tgt := 247) dX12_holds_148 (by decide) ?_
                  refine v_iincN (pc := 247) (b := 1) dX12_holds_247 rfl (by decide) (by decide) rfl ?_
                  refine v_goto (pc := 250) (tgt := 11) dX12_holds_250 (by decide) ?_
                  refine ih (j + 1) (by omega) (by omega) _ (w_step (w_fact (vw b g q) a c) 1 (b1 :: b2 :: r)) _ _ _ ?_ hrun ?_ (by rw [hst2]; exact hd3) (by rw [hst2]; exact hlen2)
                  · first | exact mP_u hm | exact mP_u (mP_u hm)
                  · refine ⟨v_pp (fun z => ?_) (fun z => ?_), PL_u hpl.2.2 (Nat.le_refl _)⟩ <;> simp_all [v_u, w_step]
        · exact absurd c35 (by decide)
      · obtain ⟨b1, b2, r, rfl⟩ := dep_2 hd2
        have hr : r.length + 1 + 1 < 31 := hlen
        refine v_lvs (lv' := [some (.ref 55), some (.int (nI cc)), some (.int (nI a)), some (.int (nI c)), some (.int (nI (r.length + 1 + 1))), some (.int (nI (s + j))), z6, z7, z8]) rfl ?_
        refine v_aload_n (pc := 22) dX12_holds_22 rfl rfl ?_
        refine v_getH (pc := 23) fg_X12_68_12 dX12_holds_23 (li_55 hL) (lr_55_19 hL) ?_
        refine v_iload (pc := 26) dX12_holds_26 rfl ?_
        refine v_ialoadN (pc := 28) dX12_holds_28 (li_67 hL) ⟨by omega, by omega⟩ hsg ?_
        refine v_istore (pc := 29) dX12_holds_29 (by decide) rfl ?_
        refine v_iload (pc := 31) dX12_holds_31 rfl ?_
        refine v_bipush (pc := 33) (v := -33) dX12_holds_33 (by decide) ?_
        refine v_icmp_ne (pc := 35) (tgt := 67) dX12_holds_35 (by decide) (fun c35 => ?_) (fun c35 => ?_)
        · refine v_iload (pc := 67) dX12_holds_67 rfl ?_
          refine v_if_ge (pc := 69) (tgt := 151) dX12_holds_69 (by decide) (fun c69 => ?_) (fun c69 => ?_)
          · exact absurd c69 (by decide)
          · refine v_iinc (pc := 72) (v := -1) dX12_holds_72 rfl (by decide) (by decide) rfl ?_
            rw [show nI (r.length + 1 + 1) + -1 = nI (r.length + 1) from pk_m1 _]
            refine v_aload_n (pc := 75) dX12_holds_75 rfl rfl ?_
            refine v_getH (pc := 76) fg_X12_86_12 dX12_holds_76 (li_55 hL) (lr_55_25 hL) ?_
            refine v_iload (pc := 79) dX12_holds_79 rfl ?_
            refine v_iconst (pc := 81) (v := nI 1) dX12_holds_81 (by decide) ?_
            refine v_isubN (pc := 82) (by omega) dX12_holds_82 ?_
            refine v_iload (pc := 83) dX12_holds_83 rfl ?_
            refine v_bipush (pc := 85) (v := -38) dX12_holds_85 (by decide) ?_
            refine v_icmp_ne (pc := 87) (tgt := 120) dX12_holds_87 (by decide) (fun c87 => ?_) (fun c87 => ?_)
            · refine v_aload_n (pc := 120) dX12_holds_120 rfl rfl ?_
              refine v_getH (pc := 121) fg_X12_86_12 dX12_holds_121 (li_55 hL) (lr_55_25 hL) ?_
              refine v_iload (pc := 124) dX12_holds_124 rfl ?_
              refine v_iconst (pc := 126) (v := nI 1) dX12_holds_126 (by decide) ?_
              refine v_isubN (pc := 127) (by omega) dX12_holds_127 ?_
              refine v_zaloadN (pc := 128) dX12_holds_128 (li_70 hL) ⟨by omega, by omega⟩ hpl.2.1 ?_
              refine v_if_neP (pc := 129) (tgt := 142) dX12_holds_129 (by decide) (fun c129 => ?_) (fun c129 => ?_)
              · refine v_iconst (pc := 142) (v := nI 1) dX12_holds_142 (by decide) ?_
                refine v_goto (pc := 143) (tgt := 147) dX12_holds_143 (by decide) ?_
                refine v_zastoreN (pc := 147) dX12_holds_147 (li_70 hL) ⟨by omega, by omega⟩ (by first | exact v_n1 | exact v_n0) ?_
                refine v_goto (pc := 148) (tgt := 247) dX12_holds_148 (by decide) ?_
                refine v_iincN (pc := 247) (b := 1) dX12_holds_247 rfl (by decide) (by decide) rfl ?_
                refine v_goto (pc := 250) (tgt := 11) dX12_holds_250 (by decide) ?_
                refine ih (j + 1) (by omega) (by omega) _ (w_step (w_fact (vw b g q) a c) 2 (b1 :: b2 :: r)) _ _ _ ?_ hrun ?_ (by rw [hst2]; exact hd3) (by rw [hst2]; exact hlen2)
                · first | exact mP_u hm | exact mP_u (mP_u hm)
                · refine ⟨v_pp (fun z => ?_) (fun z => ?_), PL_u hpl.2.2 (Nat.le_refl _)⟩ <;> simp_all [v_u, w_step]
              · refine v_aload_n (pc := 132) dX12_holds_132 rfl rfl ?_
                refine v_getH (pc := 133) fg_X12_86_12 dX12_holds_133 (li_55 hL) (lr_55_25 hL) ?_
                refine v_iload (pc := 136) dX12_holds_136 rfl ?_
                refine v_zaloadN (pc := 138) dX12_holds_138 (li_70 hL) ⟨by omega, by omega⟩ hpl.1 ?_
                refine v_if_eqP (pc := 139) (tgt := 146) dX12_holds_139 (by decide) (fun c139 => ?_) (fun c139 => ?_)
                · refine v_iconst (pc := 146) (v := nI 0) dX12_holds_146 (by decide) ?_
                  refine v_zastoreN (pc := 147) dX12_holds_147 (li_70 hL) ⟨by omega, by omega⟩ (by first | exact v_n1 | exact v_n0) ?_
                  refine v_goto (pc := 148) (tgt := 247) dX12_holds_148 (by decide) ?_
                  refine v_iincN (pc := 247) (b := 1) dX12_holds_247 rfl (by decide) (by decide) rfl ?_
                  refine v_goto (pc := 250) (tgt := 11) dX12_holds_250 (by decide) ?_
                  refine ih (j + 1) (by omega) (by omega) _ (w_step (w_fact (vw b g q) a c) 2 (b1 :: b2 :: r)) _ _ _ ?_ hrun ?_ (by rw [hst2]; exact hd3) (by rw [hst2]; exact hlen2)
                  · first | exact mP_u hm | exact mP_u (mP_u hm)
                  · refine ⟨v_pp (fun z => ?_) (fun z => ?_), PL_u hpl.2.2 (Nat.le_refl _)⟩ <;> simp_all [v_u, w_step]
                · refine v_iconst (pc := 142) (v := nI 1) dX12_holds_142 (by decide) ?_
                  refine v_goto (pc := 143) (tgt := 147) dX12_holds_143 (by decide) ?_
                  refine v_zastoreN (pc := 147) dX12_holds_147 (li_70 hL) ⟨by omega, by omega⟩ (by first | exact v_n1 | exact v_n0) ?_
                  refine v_goto (pc := 148) (tgt := 247) dX12_holds_148 (by decide) ?_
                  refine v_iincN (pc := 247) (b := 1) dX12_holds_247 rfl (by decide) (by decide) rfl ?_
                  refine v_goto (pc := 250) (tgt := 11) dX12_holds_250 (by decide) ?_
                  refine ih (j + 1) (by omega) (by omega) _ (w_step (w_fact (vw b g q) a c) 2 (b1 :: b2 :: r)) _ _ _ ?_ hrun ?_ (by rw [hst2]; exact hd3) (by rw [hst2]; exact hlen2)
                  · first | exact mP_u hm | exact mP_u (mP_u hm)
                  · refine ⟨v_pp (fun z => ?_) (fun z => ?_), PL_u hpl.2.2 (Nat.le_refl _)⟩ <;> simp_all [v_u, w_step]
            · exact absurd c87 (by decide)
        · exact absurd c35 (by decide)
      · obtain ⟨ht, hn30⟩ := dep_t hd2
        have e1 : (1000 * (t / 300) + 100 * (t / 100 % 3) + t % 100) / 1000 = t / 300 := by omega
        have e2 : (1000 * (t / 300) + 100 * (t / 100 % 3) + t % 100) / 100 % 10 = t / 100 % 3 := by omega
        have e3 : (1000 * (t / 300) + 100 * (t / 100 % 3) + t % 100) % 100 = t % 100 := by omega
        have hft := w_fact_lt (vw b g q) hp.1 hp.2 (t / 300)
        refine v_lvs (lv' := [some (.ref 55), some (.int (nI cc)), some (.int (nI a)), some (.int (nI c)), some (.int (nI st.length)), some (.int (nI (s + j))), z6, z7, z8]) rfl ?_
        refine v_aload_n (pc := 22) dX12_holds_22 rfl rfl ?_
        refine v_getH (pc := 23) fg_X12_68_12 dX12_holds_23 (li_55 hL) (lr_55_19 hL) ?_
        refine v_iload (pc := 26) dX12_holds_26 rfl ?_
        refine v_ialoadN (pc := 28) dX12_holds_28 (li_67 hL) ⟨by omega, by omega⟩ hsg ?_
        refine v_istore (pc := 29) dX12_holds_29 (by decide) rfl ?_
        refine v_iload (pc := 31) dX12_holds_31 rfl ?_
        refine v_bipush (pc := 33) (v := -33) dX12_holds_33 (by decide) ?_
        refine v_icmp_ne (pc := 35) (tgt := 67) dX12_holds_35 (by decide) (fun c35 => ?_) (fun c35 => ?_)
        · refine v_iload (pc := 67) dX12_holds_67 rfl ?_
          refine v_if_geN (pc := 69) (tgt := 151) (by omega) dX12_holds_69 (by decide) ?_
          refine v_aload_n (pc := 151) dX12_holds_151 rfl rfl ?_
          refine v_iload (pc := 152) dX12_holds_152 rfl ?_
          refine v_sipush (pc := 154) (v := nI 1000) dX12_holds_154 (by decide) ?_
          refine v_idivN (pc := 157) (by omega) (by omega) (by omega) dX12_holds_157 ?_
          refine v_top (congrArg nI e1) ?_
          refine v_iload_n (pc := 158) dX12_holds_158 rfl rfl ?_
          refine v_iload_n (pc := 159) dX12_holds_159 rfl rfl ?_
          refine v_ci (pc := 160) (v_rV (c_X12_factOf G l hL (q := q) hv (by omega) hp hpg) rfl kV_X12_279 (v_rcO (li_55 hL) rfl (by decide)) ⟨Nat.le_of_ble_eq_true rfl, Nat.le_of_ble_eq_true rfl⟩ ⟨Nat.le_of_ble_eq_true rfl, Nat.le_of_ble_eq_true rfl⟩ dX12_holds_160 (Nat.le_of_ble_eq_true rfl)) (fun x160 M160 h160 => ?_)
          obtain ⟨rfl, rfl⟩ := h160
          refine v_istore (pc := 163) dX12_holds_163 (by decide) rfl ?_
          refine v_iload (pc := 165) dX12_holds_165 rfl ?_
          refine v_bipush (pc := 167) (v := nI 100) dX12_holds_167 (by decide) ?_
          refine v_idivN (pc := 169) (by omega) (by omega) (by omega) dX12_holds_169 ?_
          refine v_bipush (pc := 170) (v := nI 10) dX12_holds_170 (by decide) ?_
          refine v_iremN (pc := 172) (by omega) (by omega) (by omega) dX12_holds_172 ?_
          refine v_top (congrArg nI e2) ?_
          refine v_istore (pc := 173) dX12_holds_173 (by decide) rfl ?_
          refine v_aload_n (pc := 175) dX12_holds_175 rfl rfl ?_
          refine v_getH (pc := 176) fg_X12_86_12 dX12_holds_176 (li_55 hL) (lr_55_25 hL) ?_
          refine v_iload (pc := 179) dX12_holds_179 rfl ?_
          refine v_iload (pc := 181) dX12_holds_181 rfl ?_
          refine v_if_neN (pc := 183) (tgt := 204) (by omega) dX12_holds_183 (by decide) (fun c183 => ?_) (fun c183 => ?_)
          · refine v_iload (pc := 204) dX12_holds_204 rfl ?_
            refine v_iconst (pc := 206) (v := nI 1) dX12_holds_206 (by decide) ?_
            refine v_icmp_neN (pc := 207) (tgt := 228) ⟨by omega, by omega⟩ dX12_holds_207 (by decide) (fun c207 => ?_) (fun c207 => ?_)
            · refine v_iload (pc := 228) dX12_holds_228 rfl ?_
              refine v_iload (pc := 230) dX12_holds_230 rfl ?_
              refine v_bipush (pc := 232) (v := nI 100) dX12_holds_232 (by decide) ?_
              refine v_iremN (pc := 234) (by omega) (by omega) (by omega) dX12_holds_234 ?_
              refine v_top (congrArg nI e3) ?_
              refine v_icmp_leN (pc := 235) (tgt := 242) ⟨by omega, by omega⟩ dX12_holds_235 (by decide) (fun c235 => ?_) (fun c235 => ?_)
              · refine v_iconst (pc := 242) (v := nI 0) dX12_holds_242 (by decide) ?_
                refine v_zastoreN (pc := 243) dX12_holds_243 (li_70 hL) ⟨by omega, by omega⟩ (by first | exact v_n1 | exact v_n0) ?_
                refine v_iincN (pc := 244) (b := 1) dX12_holds_244 rfl (by decide) (by decide) rfl ?_
                refine v_iincN (pc := 247) (b := 1) dX12_holds_247 rfl (by decide) (by decide) rfl ?_
                refine v_goto (pc := 250) (tgt := 11) dX12_holds_250 (by decide) ?_
                refine ih (j + 1) (by omega) (by omega) _ (w_step (w_fact (vw b g q) a c) (t + 3) st) _ _ _ ?_ hrun ?_ (by rw [hst2]; exact hd3) (by rw [hst2]; exact hlen2)
                · first | exact mP_u hm | exact mP_u (mP_u hm)
                · exact ⟨v_pp (fun z => by first | (simp_all [v_u, w_test]; done) | (simp_all [v_u, w_test]; omega)) (fun z => by first | (simp_all [v_u, w_test]; done) | (simp_all [v_u, w_test]; omega)), PL_u hpl (Nat.le_refl _)⟩
              · refine v_iconst (pc := 238) (v := nI 1) dX12_holds_238 (by decide) ?_
                refine v_goto (pc := 239) (tgt := 243) dX12_holds_239 (by decide) ?_
                refine v_zastoreN (pc := 243) dX12_holds_243 (li_70 hL) ⟨by omega, by omega⟩ (by first | exact v_n1 | exact v_n0) ?_
                refine v_iincN (pc := 244) (b := 1) dX12_holds_244 rfl (by decide) (by decide) rfl ?_
                refine v_iincN (pc := 247) (b := 1) dX12_holds_247 rfl (by decide) (by decide) rfl ?_
                refine v_goto (pc := 250) (tgt := 11) dX12_holds_250 (by decide) ?_
                refine ih (j + 1) (by omega) (by omega) _ (w_step (w_fact (vw b g q) a c) (t + 3) st) _ _ _ ?_ hrun ?_ (by rw [hst2]; exact hd3) (by rw [hst2]; exact hlen2)
                · first | exact mP_u hm | exact mP_u (mP_u hm)
                · exact ⟨v_pp (fun z => by first | (simp_all [v_u, w_test]; done) | (simp_all [v_u, w_test]; omega)) (fun z => by first | (simp_all [v_u, w_test]; done) | (simp_all [v_u, w_test]; omega)), PL_u hpl (Nat.le_refl _)⟩
            · refine v_iload (pc := 210) dX12_holds_210 rfl ?_
              refine v_iload (pc := 212) dX12_holds_212 rfl ?_
              refine v_bipush (pc := 214) (v := nI 100) dX12_holds_214 (by decide) ?_
              refine v_iremN (pc := 216) (by omega) (by omega) (by omega) dX12_holds_216 ?_
              refine v_top (congrArg nI e3) ?_
              refine v_icmp_neN (pc := 217) (tgt := 224) ⟨by omega, by omega⟩ dX12_holds_217 (by decide) (fun c217 => ?_) (fun c217 => ?_)
              · refine v_iconst (pc := 224) (v := nI 0) dX12_holds_224 (by decide) ?_
                refine v_goto (pc := 225) (tgt := 243) dX12_holds_225 (by decide) ?_
                refine v_zastoreN (pc := 243) dX12_holds_243 (li_70 hL) ⟨by omega, by omega⟩ (by first | exact v_n1 | exact v_n0) ?_
                refine v_iincN (pc := 244) (b := 1) dX12_holds_244 rfl (by decide) (by decide) rfl ?_
                refine v_iincN (pc := 247) (b := 1) dX12_holds_247 rfl (by decide) (by decide) rfl ?_
                refine v_goto (pc := 250) (tgt := 11) dX12_holds_250 (by decide) ?_
                refine ih (j + 1) (by omega) (by omega) _ (w_step (w_fact (vw b g q) a c) (t + 3) st) _ _ _ ?_ hrun ?_ (by rw [hst2]; exact hd3) (by rw [hst2]; exact hlen2)
                · first | exact mP_u hm | exact mP_u (mP_u hm)
                · exact ⟨v_pp (fun z => by first | (simp_all [v_u, w_test]; done) | (simp_all [v_u, w_test]; omega)) (fun z => by first | (simp_all [v_u, w_test]; done) | (simp_all [v_u, w_test]; omega)), PL_u hpl (Nat.le_refl _)⟩
              · refine v_iconst (pc := 220) (v := nI 1) dX12_holds_220 (by decide) ?_
                refine v_goto (pc := 221) (tgt := 243) dX12_holds_221 (by decide) ?_
                refine v_zastoreN (pc := 243) dX12_holds_243 (li_70 hL) ⟨by omega, by omega⟩ (by first | exact v_n1 | exact v_n0) ?_
                refine v_iincN (pc := 244) (b := 1) dX12_holds_244 rfl (by decide) (by decide) rfl ?_
                refine v_iincN (pc := 247) (b := 1) dX12_holds_247 rfl (by decide) (by decide) rfl ?_
                refine v_goto (pc := 250) (tgt := 11) dX12_holds_250 (by decide) ?_
                refine ih (j + 1) (by omega) (by omega) _ (w_step (w_fact (vw b g q) a c) (t + 3) st) _ _ _ ?_ hrun ?_ (by rw [hst2]; exact hd3) (by rw [hst2]; exact hlen2)
                · first | exact mP_u hm | exact mP_u (mP_u hm)
                · exact ⟨v_pp (fun z => by first | (simp_all [v_u, w_test]; done) | (simp_all [v_u, w_test]; omega)) (fun z => by first | (simp_all [v_u, w_test]; done) | (simp_all [v_u, w_test]; omega)), PL_u hpl (Nat.le_refl _)⟩
          · refine v_iload (pc := 186) dX12_holds_186 rfl ?_
            refine v_iload (pc := 188) dX12_holds_188 rfl ?_
            refine v_bipush (pc := 190) (v := nI 100) dX12_holds_190 (by decide) ?_
            refine v_iremN (pc := 192) (by omega) (by omega) (by omega) dX12_holds_192 ?_
            refine v_top (congrArg nI e3) ?_
            refine v_icmp_geN (pc := 193) (tgt := 200) ⟨by omega, by omega⟩ dX12_holds_193 (by decide) (fun c193 => ?_) (fun c193 => ?_)
            · refine v_iconst (pc := 200) (v := nI 0) dX12_holds_200 (by decide) ?_
              refine v_goto (pc := 201) (tgt := 243) dX12_holds_201 (by decide) ?_
              refine v_zastoreN (pc := 243) dX12_holds_243 (li_70 hL) ⟨by omega, by omega⟩ (by first | exact v_n1 | exact v_n0) ?_
              refine v_iincN (pc := 244) (b := 1) dX12_holds_244 rfl (by decide) (by decide) rfl ?_
              refine v_iincN (pc := 247) (b := 1) dX12_holds_247 rfl (by decide) (by decide) rfl ?_
              refine v_goto (pc := 250) (tgt := 11) dX12_holds_250 (by decide) ?_
              refine ih (j + 1) (by omega) (by omega) _ (w_step (w_fact (vw b g q) a c) (t + 3) st) _ _ _ ?_ hrun ?_ (by rw [hst2]; exact hd3) (by rw [hst2]; exact hlen2)
              · first | exact mP_u hm | exact mP_u (mP_u hm)
              · exact ⟨v_pp (fun z => by first | (simp_all [v_u, w_test]; done) | (simp_all [v_u, w_test]; omega)) (fun z => by first | (simp_all [v_u, w_test]; done) | (simp_all [v_u, w_test]; omega)), PL_u hpl (Nat.le_refl _)⟩
            · refine v_iconst (pc := 196) (v := nI 1) dX12_holds_196 (by decide) ?_
              refine v_goto (pc := 197) (tgt := 243) dX12_holds_197 (by decide) ?_
              refine v_zastoreN (pc := 243) dX12_holds_243 (li_70 hL) ⟨by omega, by omega⟩ (by first | exact v_n1 | exact v_n0) ?_
              refine v_iincN (pc := 244) (b := 1) dX12_holds_244 rfl (by decide) (by decide) rfl ?_
              refine v_iincN (pc := 247) (b := 1) dX12_holds_247 rfl (by decide) (by decide) rfl ?_
              refine v_goto (pc := 250) (tgt := 11) dX12_holds_250 (by decide) ?_
              refine ih (j + 1) (by omega) (by omega) _ (w_step (w_fact (vw b g q) a c) (t + 3) st) _ _ _ ?_ hrun ?_ (by rw [hst2]; exact hd3) (by rw [hst2]; exact hlen2)
              · first | exact mP_u hm | exact mP_u (mP_u hm)
              · exact ⟨v_pp (fun z => by first | (simp_all [v_u, w_test]; done) | (simp_all [v_u, w_test]; omega)) (fun z => by first | (simp_all [v_u, w_test]; done) | (simp_all [v_u, w_test]; omega)), PL_u hpl (Nat.le_refl _)⟩
        · exact absurd c35 (m_ne (by omega))
  refine v_iconst (pc := 0) (v := nI 0) dX12_holds_0 (by decide) ?_
  refine v_istore (pc := 1) dX12_holds_1 (by decide) rfl ?_
  refine v_aload_n (pc := 3) dX12_holds_3 rfl rfl ?_
  refine v_getH (pc := 4) fg_X12_62_12 dX12_holds_4 (li_55 hL) (lr_55_17 hL) ?_
  refine v_iload_n (pc := 7) dX12_holds_7 rfl rfl ?_
  refine v_ialoadN (pc := 8) dX12_holds_8 (li_65 hL) ⟨by omega, by omega⟩ hs.1 ?_
  refine v_istore (pc := 9) dX12_holds_9 (by decide) rfl ?_
  exact key 0 (Nat.zero_le _) I [] none none none mP_rf rfl trivial hd (by decide)
