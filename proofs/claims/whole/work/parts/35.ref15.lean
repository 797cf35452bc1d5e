/-! THE REFERENCE: acts and their trace. What each answers, which bodies run: of kind k, number i, v -/
abbrev AR : Type := Int32 × List Nat
def a_pm (i : Nat) (x : Int32) : AR := (x + nI i, [10])
def a_m (k v i : Nat) (x : Int32) : AR := match k with
  | 2 => ((a_pm i (x * nI 3)).1, 30 :: (a_pm i (x * nI 3)).2)
  | 5 => ((a_pm i (x * nI 3)).1, 30 :: (a_pm i (x * nI 3)).2)
  | 4 => (-(a_pm i x).1, 50 :: (a_pm i x).2)
  | 6 => ((a_pm i x).1 ^^^ nI v, 71 :: (a_pm i x).2)
  | _ => a_pm i x
def a_pc (k v i : Nat) (x : Int32) : AR := ((a_m k v i x).1 - nI v, 11 :: (a_m k v i x).2)
def a_wc (k v i : Nat) (x : Int32) : AR := ((a_pc k v i x).1 ^^^ nI 6, 20 :: (a_pc k v i x).2)
def a_c (k v i : Nat) (x : Int32) : AR := match k with
  | 1 => a_wc k v i x
  | 4 => ((a_wc k v i (x + nI 1)).1, 51 :: (a_wc k v i (x + nI 1)).2)
  | 6 => ((a_pc k v i x).1 + (a_pm i (nI 2)).1, 70 :: ((a_pc k v i x).2 ++ (a_pm i (nI 2)).2))
  | _ => a_pc k v i x
def a_pt (k v i : Nat) (x : Int32) : AR := ((a_c k v i x).1 * nI 2, 12 :: (a_c k v i x).2)
def a_t (k v i : Nat) (x : Int32) : AR := match k with
  | 3 => ((a_pt k v i x).1 + (a_c k v i (nI 1)).1, 40 :: ((a_pt k v i x).2 ++ (a_c k v i (nI 1)).2))
  | 6 => ((a_pt k v i x).1 + (a_c k v i (nI 1)).1, 40 :: ((a_pt k v i x).2 ++ (a_c k v i (nI 1)).2))
  | 5 => ((a_pt k v i (x - nI i)).1, 60 :: (a_pt k v i (x - nI i)).2)
  | _ => a_pt k v i x
theorem a_m_l (k v i : Nat) (x : Int32) : (a_m k v i x).2.length ≤ 2 := by unfold a_m; split <;> simp [a_pm]
theorem a_pc_l (k v i : Nat) (x : Int32) : (a_pc k v i x).2.length ≤ 3 := by have := a_m_l k v i x; simp [a_pc]; omega
theorem a_wc_l (k v i : Nat) (x : Int32) : (a_wc k v i x).2.length ≤ 4 := by have := a_pc_l k v i x; simp [a_wc]; omega
theorem a_c_l (k v i : Nat) (x : Int32) : (a_c k v i x).2.length ≤ 5 := by
  unfold a_c
  split
  · exact Nat.le_trans (a_wc_l _ _ _ _) (by decide)
  · have := a_wc_l 4 v i (x + nI 1); simp; omega
  · have := a_pc_l 6 v i x; simp [a_pm]; omega
  · exact Nat.le_trans (a_pc_l _ _ _ _) (by decide)
theorem a_pt_l (k v i : Nat) (x : Int32) : (a_pt k v i x).2.length ≤ 6 := by have := a_c_l k v i x; simp [a_pt]; omega
/-- all but the trace is as it was -/
def mR (I I' : Nat → Nat → Int32) : Prop := ∀ a z, a ≠ 86 → ¬ (a = 55 ∧ z = 55) → I' a z = I a z
theorem mR_rf {I : Nat → Nat → Int32} : mR I I := fun _ _ _ _ => rfl
theorem mR_tr {I I' I'' : Nat → Nat → Int32} (h : mR I I') (h' : mR I' I'') : mR I I'' := fun a z n1 n2 => (h' a z n1 n2).trans (h a z n1 n2)
theorem mR_h {I I' : Nat → Nat → Int32} (h : mR I I') {a z : Nat} (n : a ≠ 86 ∧ a ≠ 55) : I' a z = I a z := h a z n.1 (fun q => n.2 q.1)
theorem MTr_s {I : Nat → Nat → Int32} {l : List Nat} {c : Nat} (h : MTr I l) (hl : l.length < 20) : MTr (v_u (v_u I 86 l.length (nI c)) 55 55 (nI (l.length + 1))) (l ++ [c]) := by
  refine ⟨by rw [v_u_same, List.length_append]; rfl, by rw [List.length_append]; show l.length + 1 ≤ 20; omega, fun j x hj => ?_⟩
  rw [v_u_h (by decide)]
  by_cases e : j < l.length
  · rw [v_u_k (by omega)]
    rw [List.getElem?_append_left e] at hj
    exact h.2.2 j x hj
  · have e2 : j = l.length := by
      have := (List.getElem?_eq_some_iff.mp hj).1
      rw [List.length_append] at this
      have : j < l.length + 1 := this
      omega
    subst e2
    rw [v_u_same]
    rw [List.getElem?_append_right (Nat.le_refl _), Nat.sub_self] at hj
    cases hj
    rfl
abbrev rm_X12_body : Room := { frames := 0, cells := 0, slots := 0, locals := 0 }
set_option maxRecDepth 20000 in
theorem c_X12_body (G : v_G) (l : Launch) {K : Nat × v_TY} {I : Nat → Nat → Int32} {J : Nat → Nat → Int64} {R : Nat → Nat → Option Nat} (hL : Lay K R) {c : Nat} {tl : List Nat} (h : MTr I tl) (hl : tl.length < 20) : v_M G l yX12_body cX12_body 2 none rm_X12_body [.ref 55, .int (nI c)] (K, I, J, R) (v_Qv G (fun (M' : v_MM) => ∃ I', M' = (K, I', J, R) ∧ MTr I' (tl ++ [c]) ∧ mR I I')) := by
  refine v_of [some (.ref 55), some (.int (nI c))] (by decide) (Nat.le_of_ble_eq_true rfl) (Nat.le_of_ble_eq_true rfl) rfl ?_
  refine v_aload_n (pc := 0) dX12_body_0 rfl rfl ?_
  refine v_getV (pc := 1) fg_X12_178_12 dX12_body_1 (li_55 hL) h.1 ?_
  refine v_bipush (pc := 4) (v := nI 20) dX12_body_4 (by decide) ?_
  refine v_icmp_geN (pc := 6) (tgt := 19) ⟨by omega, by omega⟩ dX12_body_6 (by decide) (fun c6 => ?_) (fun c6 => ?_)
  · exact absurd c6 (by omega)
  · refine v_aload_n (pc := 9) dX12_body_9 rfl rfl ?_
    refine v_getH (pc := 10) fg_X12_181_12 dX12_body_10 (li_55 hL) (lr_55_56 hL) ?_
    refine v_aload_n (pc := 13) dX12_body_13 rfl rfl ?_
    refine v_getV (pc := 14) fg_X12_178_12 dX12_body_14 (li_55 hL) h.1 ?_
    refine v_iload_n (pc := 17) dX12_body_17 rfl rfl ?_
    refine v_iastoreN (pc := 18) dX12_body_18 (li_86 hL) ⟨by omega, by omega⟩ ?_
    refine v_aload_n (pc := 19) dX12_body_19 rfl rfl ?_
    refine v_dup (pc := 20) dX12_body_20 rfl ?_
    refine v_getV (pc := 21) fg_X12_178_12 dX12_body_21 (li_55 hL) ((v_u_h (by decide)).trans h.1) ?_
    refine v_iconst (pc := 24) (v := nI 1) dX12_body_24 (by decide) ?_
    refine v_iaddN (pc := 25) dX12_body_25 ?_
    refine v_putI (pc := 26) pg_X12_178_12 (fun h => by cases h) dX12_body_26 (li_55 hL) rfl rfl ?_
    exact v_vret (pc := 29) dX12_body_29 rfl (Nat.le_of_ble_eq_true rfl) (Nat.le_of_ble_eq_true rfl) ⟨_, rfl, MTr_s h hl, fun a z n1 n2 => by rw [show ∀ C y, v_u C 55 55 y a z = C a z from fun C y => if_neg n2, v_u_h n1]⟩
abbrev rm_X12_personMeets : Room := { frames := 1, cells := 0, slots := 0, locals := 21 }
set_option maxRecDepth 20000 in
theorem c_X12_personMeets (G : v_G) (l : Launch) {K : Nat × v_TY} {I : Nat → Nat → Int32} {J : Nat → Nat → Int64} {R : Nat → Nat → Option Nat} (hL : Lay K R) {i : Nat} {z : Int32} {tl : List Nat} (h : MTr I tl) (hl : tl.length ≤ 19) : v_M G l yX12_personMeets cX12_personMeets 3 (some .int) rm_X12_personMeets [.ref 55, .int (nI i), .int z] (K, I, J, R) (v_Qi G (fun (x : Int32) (M' : v_MM) => x = (a_pm i z).1 ∧ ∃ I', M' = (K, I', J, R) ∧ MTr I' (tl ++ (a_pm i z).2) ∧ mR I I')) := by
  refine v_of [some (.ref 55), some (.int (nI i)), some (.int z)] (by decide) (Nat.le_of_ble_eq_true rfl) (Nat.le_of_ble_eq_true rfl) rfl ?_
  refine v_aload_n (pc := 0) dX12_personMeets_0 rfl rfl ?_
  refine v_bipush (pc := 1) (v := nI 10) dX12_personMeets_1 (by decide) ?_
  refine v_cv (pc := 3) (v_rV (c_X12_body G l hL h (by (try simp only [List.length_append, List.length_cons, List.length_nil]); omega)) rfl kV_X12_356 (v_rcO (li_55 hL) rfl (by decide)) ⟨Nat.le_of_ble_eq_true rfl, Nat.le_of_ble_eq_true rfl⟩ ⟨Nat.le_of_ble_eq_true rfl, Nat.le_of_ble_eq_true rfl⟩ dX12_personMeets_3 (Nat.le_of_ble_eq_true rfl)) (fun M3 h3 => ?_)
  obtain ⟨I3, rfl, t3, m3⟩ := h3
  refine v_iload_n (pc := 6) dX12_personMeets_6 rfl rfl ?_
  refine v_iload_n (pc := 7) dX12_personMeets_7 rfl rfl ?_
  refine v_iadd (pc := 8) dX12_personMeets_8 ?_
  exact v_iret (pc := 9) dX12_personMeets_9 rfl rfl (Nat.le_of_ble_eq_true rfl) (Nat.le_of_ble_eq_true rfl) ⟨rfl, _, rfl, t3, m3⟩
abbrev rm_X12_meetsAct : Room := { frames := 2, cells := 0, slots := 0, locals := 43 }
set_option maxRecDepth 20000 in
theorem c_X12_meetsAct (G : v_G) (l : Launch) {K : Nat × v_TY} {I : Nat → Nat → Int32} {J : Nat → Nat → Int64} {R : Nat → Nat → Option Nat} (hL : Lay K R) {i : Nat} {z : Int32} {k v : Nat} (hk : I 56 i = nI k ∧ k ≤ 6) (hv : I 57 i = nI v) (hi : i < 7) {tl : List Nat} (h : MTr I tl) (hl : tl.length ≤ 18) : v_M G l yX12_meetsAct cX12_meetsAct 3 (some .int) rm_X12_meetsAct [.ref 55, .int (nI i), .int z] (K, I, J, R) (v_Qi G (fun (x : Int32) (M' : v_MM) => x = (a_m k v i z).1 ∧ ∃ I', M' = (K, I', J, R) ∧ MTr I' (tl ++ (a_m k v i z).2) ∧ mR I I')) := by
  refine v_of [some (.ref 55), some (.int (nI i)), some (.int z)] (by decide) (Nat.le_of_ble_eq_true rfl) (Nat.le_of_ble_eq_true rfl) rfl ?_
  have hk6 := hk.2
  refine v_aload_n (pc := 0) dX12_meetsAct_0 rfl rfl ?_
  refine v_getH (pc := 1) fg_X12_19_12 dX12_meetsAct_1 (li_55 hL) (lr_55_3 hL) ?_
  refine v_iload_n (pc := 4) dX12_meetsAct_4 rfl rfl ?_
  refine v_ialoadN (pc := 5) dX12_meetsAct_5 (li_56 hL) ⟨by omega, by omega⟩ hk.1 ?_
  rcases (show k = 0 ∨ k = 1 ∨ k = 2 ∨ k = 3 ∨ k = 4 ∨ k = 5 ∨ k = 6 by omega) with rfl | rfl | rfl | rfl | rfl | rfl | rfl
  · refine v_tableOut (pc := 6) (tgt := 89) dX12_meetsAct_6 (by decide) (by decide) ?_
    refine v_aload_n (pc := 89) dX12_meetsAct_89 rfl rfl ?_
    refine v_iload_n (pc := 90) dX12_meetsAct_90 rfl rfl ?_
    refine v_iload_n (pc := 91) dX12_meetsAct_91 rfl rfl ?_
    refine v_ci (pc := 92) (v_rV (c_X12_personMeets G l hL h (by (try simp only [List.length_append, List.length_cons, List.length_nil]); omega)) rfl kV_X12_359 (v_rcO (li_55 hL) rfl (by decide)) ⟨Nat.le_of_ble_eq_true rfl, Nat.le_of_ble_eq_true rfl⟩ ⟨Nat.le_of_ble_eq_true rfl, Nat.le_of_ble_eq_true rfl⟩ dX12_meetsAct_92 (Nat.le_of_ble_eq_true rfl)) (fun x92 M92 h92 => ?_)
    obtain ⟨rfl, I92, rfl, t92, m92⟩ := h92
    exact v_iret (pc := 95) dX12_meetsAct_95 rfl rfl (Nat.le_of_ble_eq_true rfl) (Nat.le_of_ble_eq_true rfl) (by first | exact ⟨rfl, _, rfl, t92, m92⟩ | exact ⟨rfl, _, rfl, by have e := t51; rw [List.append_assoc] at e; exact e, mR_tr m43 m51⟩ | exact ⟨rfl, _, rfl, by have e := t64; rw [List.append_assoc] at e; exact e, mR_tr m58 m64⟩ | exact ⟨rfl, _, rfl, by have e := t78; rw [List.append_assoc] at e; exact e, mR_tr m72 m78⟩)
  · refine v_tableOut (pc := 6) (tgt := 89) dX12_meetsAct_6 (by decide) (by decide) ?_
    refine v_aload_n (pc := 89) dX12_meetsAct_89 rfl rfl ?_
    refine v_iload_n (pc := 90) dX12_meetsAct_90 rfl rfl ?_
    refine v_iload_n (pc := 91) dX12_meetsAct_91 rfl rfl ?_
    refine v_ci (pc := 92) (v_rV (c_X12_personMeets G l hL h (by (try simp only [List.length_append, List.length_cons, List.length_nil]); omega)) rfl kV_X12_359 (v_rcO (li_55 hL) rfl (by decide)) ⟨Nat.le_of_ble_eq_true rfl, Nat.le_of_ble_eq_true rfl⟩ ⟨Nat.le_of_ble_eq_true rfl, Nat.le_of_ble_eq_true rfl⟩ dX12_meetsAct_92 (Nat.le_of_ble_eq_true rfl)) (fun x92 M92 h92 => ?_)
    obtain ⟨rfl, I92, rfl, t92, m92⟩ := h92
    exact v_iret (pc := 95) dX12_meetsAct_95 rfl rfl (Nat.le_of_ble_eq_true rfl) (Nat.le_of_ble_eq_true rfl) (by first | exact ⟨rfl, _, rfl, t92, m92⟩ | exact ⟨rfl, _, rfl, by have e := t51; rw [List.append_assoc] at e; exact e, mR_tr m43 m51⟩ | exact ⟨rfl, _, rfl, by have e := t64; rw [List.append_assoc] at e; exact e, mR_tr m58 m64⟩ | exact ⟨rfl, _, rfl, by have e := t78; rw [List.append_assoc] at e; exact e, mR_tr m72 m78⟩)
  · refine v_tableIn (pc := 6) (tgt := 40) dX12_meetsAct_6 (by decide) (by decide) rfl (by decide) ?_
    refine v_aload_n (pc := 40) dX12_meetsAct_40 rfl rfl ?_
    refine v_bipush (pc := 41) (v := nI 30) dX12_meetsAct_41 (by decide) ?_
    refine v_cv (pc := 43) (v_rV (c_X12_body G l hL h (by (try simp only [List.length_append, List.length_cons, List.length_nil]); omega)) rfl kV_X12_356 (v_rcO (li_55 hL) rfl (by decide)) ⟨Nat.le_of_ble_eq_true rfl, Nat.le_of_ble_eq_true rfl⟩ ⟨Nat.le_of_ble_eq_true rfl, Nat.le_of_ble_eq_true rfl⟩ dX12_meetsAct_43 (Nat.le_of_ble_eq_true rfl)) (fun M43 h43 => ?_)
    obtain ⟨I43, rfl, t43, m43⟩ := h43
    refine v_aload_n (pc := 46) dX12_meetsAct_46 rfl rfl ?_
    refine v_iload_n (pc := 47) dX12_meetsAct_47 rfl rfl ?_
    refine v_iload_n (pc := 48) dX12_meetsAct_48 rfl rfl ?_
    refine v_iconst (pc := 49) (v := nI 3) dX12_meetsAct_49 (by decide) ?_
    refine v_imul (pc := 50) dX12_meetsAct_50 ?_
    refine v_ci (pc := 51) (v_rV (c_X12_personMeets G l hL t43 (by (try simp only [List.length_append, List.length_cons, List.length_nil]); omega)) rfl kV_X12_359 (v_rcO (li_55 hL) rfl (by decide)) ⟨Nat.le_of_ble_eq_true rfl, Nat.le_of_ble_eq_true rfl⟩ ⟨Nat.le_of_ble_eq_true rfl, Nat.le_of_ble_eq_true rfl⟩ dX12_meetsAct_51 (Nat.le_of_ble_eq_true rfl)) (fun x51 M51 h51 => ?_)
    obtain ⟨rfl, I51, rfl, t51, m51⟩ := h51
    exact v_iret (pc := 54) dX12_meetsAct_54 rfl rfl (Nat.le_of_ble_eq_true rfl) (Nat.le_of_ble_eq_true rfl) (by first | exact ⟨rfl, _, rfl, t92, m92⟩ | exact ⟨rfl, _, rfl, by have e := t51; rw [List.append_assoc] at e; exact e, mR_tr m43 m51⟩ | exact ⟨rfl, _, rfl, by have e := t64; rw [List.append_assoc] at e; exact e, mR_tr m58 m64⟩ | exact ⟨rfl, _, rfl, by have e := t78; rw [List.append_assoc] at e; exact e, mR_tr m72 m78⟩)
  · refine v_tableIn (pc := 6) (tgt := 89) dX12_meetsAct_6 (by decide) (by decide) rfl (by decide) ?_
    refine v_aload_n (pc := 89) dX12_meetsAct_89 rfl rfl ?_
    refine v_iload_n (pc := 90) dX12_meetsAct_90 rfl rfl ?_
    refine v_iload_n (pc := 91) dX12_meetsAct_91 rfl rfl ?_
    refine v_ci (pc := 92) (v_rV (c_X12_personMeets G l hL h (by (try simp only [List.length_append, List.length_cons, List.length_nil]); omega)) rfl kV_X12_359 (v_rcO (li_55 hL) rfl (by decide)) ⟨Nat.le_of_ble_eq_true rfl, Nat.le_of_ble_eq_true rfl⟩ ⟨Nat.le_of_ble_eq_true rfl, Nat.le_of_ble_eq_true rfl⟩ dX12_meetsAct_92 (Nat.le_of_ble_eq_true rfl)) (fun x92 M92 h92 => ?_)
    obtain ⟨rfl, I92, rfl, t92, m92⟩ := h92
    exact v_iret (pc := 95) dX12_meetsAct_95 rfl rfl (Nat.le_of_ble_eq_true rfl) (Nat.le_of_ble_eq_true rfl) (by first | exact ⟨rfl, _, rfl, t92, m92⟩ | exact ⟨rfl, _, rfl, by have e := t51; rw [List.append_assoc] at e; exact e, mR_tr m43 m51⟩ | exact ⟨rfl, _, rfl, by have e := t64; rw [List.append_assoc] at e; exact e, mR_tr m58 m64⟩ | exact ⟨rfl, _, rfl, by have e := t78; rw [List.append_assoc] at e; exact e, mR_tr m72 m78⟩)
  · refine v_tableIn (pc := 6) (tgt := 55) dX12_meetsAct_6 (by decide) (by decide) rfl (by decide) ?_
    refine v_aload_n (pc := 55) dX12_meetsAct_55 rfl rfl ?_
    refine v_bipush (pc := 56) (v := nI 50) dX12_meetsAct_56 (by decide) ?_
    refine v_cv (pc := 58) (v_rV (c_X12_body G l hL h (by (try simp only [List.length_append, List.length_cons, List.length_nil]); omega)) rfl kV_X12_356 (v_rcO (li_55 hL) rfl (by decide)) ⟨Nat.le_of_ble_eq_true rfl, Nat.le_of_ble_eq_true rfl⟩ ⟨Nat.le_of_ble_eq_true rfl, Nat.le_of_ble_eq_true rfl⟩ dX12_meetsAct_58 (Nat.le_of_ble_eq_true rfl)) (fun M58 h58 => ?_)
    obtain ⟨I58, rfl, t58, m58⟩ := h58
    refine v_aload_n (pc := 61) dX12_meetsAct_61 rfl rfl ?_
    refine v_iload_n (pc := 62) dX12_meetsAct_62 rfl rfl ?_
    refine v_iload_n (pc := 63) dX12_meetsAct_63 rfl rfl ?_
    refine v_ci (pc := 64) (v_rV (c_X12_personMeets G l hL t58 (by (try simp only [List.length_append, List.length_cons, List.length_nil]); omega)) rfl kV_X12_359 (v_rcO (li_55 hL) rfl (by decide)) ⟨Nat.le_of_ble_eq_true rfl, Nat.le_of_ble_eq_true rfl⟩ ⟨Nat.le_of_ble_eq_true rfl, Nat.le_of_ble_eq_true rfl⟩ dX12_meetsAct_64 (Nat.le_of_ble_eq_true rfl)) (fun x64 M64 h64 => ?_)
    obtain ⟨rfl, I64, rfl, t64, m64⟩ := h64
    refine v_ineg (pc := 67) dX12_meetsAct_67 ?_
    exact v_iret (pc := 68) dX12_meetsAct_68 rfl rfl (Nat.le_of_ble_eq_true rfl) (Nat.le_of_ble_eq_true rfl) (by first | exact ⟨rfl, _, rfl, t92, m92⟩ | exact ⟨rfl, _, rfl, by have e := t51; rw [List.append_assoc] at e; exact e, mR_tr m43 m51⟩ | exact ⟨rfl, _, rfl, by have e := t64; rw [List.append_assoc] at e; exact e, mR_tr m58 m64⟩ | exact ⟨rfl, _, rfl, by have e := t78; rw [List.append_assoc] at e; exact e, mR_tr m72 m78⟩)
  · refine v_tableIn (pc := 6) (tgt := 40) dX12_meetsAct_6 (by decide) (by decide) rfl (by decide) ?_
    refine v_aload_n (pc := 40) dX12_meetsAct_40 rfl rfl ?_
    refine v_bipush (pc := 41) (v := nI 30) dX12_meetsAct_41 (by decide) ?_
    refine v_cv (pc := 43) (v_rV (c_X12_body G l hL h (by (try simp only [List.length_append, List.length_cons, List.length_nil]); omega)) rfl kV_X12_356 (v_rcO (li_55 hL) rfl (by decide)) ⟨Nat.le_of_ble_eq_true rfl, Nat.le_of_ble_eq_true rfl⟩ ⟨Nat.le_of_ble_eq_true rfl, Nat.le_of_ble_eq_true rfl⟩ dX12_meetsAct_43 (Nat.le_of_ble_eq_true rfl)) (fun M43 h43 => ?_)
    obtain ⟨I43, rfl, t43, m43⟩ := h43
    refine v_aload_n (pc := 46) dX12_meetsAct_46 rfl rfl ?_
    refine v_iload_n (pc := 47) dX12_meetsAct_47 rfl rfl ?_
    refine v_iload_n (pc := 48) dX12_meetsAct_48 rfl rfl ?_
    refine v_iconst (pc := 49) (v := nI 3) dX12_meetsAct_49 (by decide) ?_
    refine v_imul (pc := 50) dX12_meetsAct_50 ?_
    refine v_ci (pc := 51) (v_rV (c_X12_personMeets G l hL t43 (by (try simp only [List.length_append, List.length_cons, List.length_nil]); omega)) rfl kV_X12_359 (v_rcO (li_55 hL) rfl (by decide)) ⟨Nat.le_of_ble_eq_true rfl, Nat.le_of_ble_eq_true rfl⟩ ⟨Nat.le_of_ble_eq_true rfl, Nat.le_of_ble_eq_true rfl⟩ dX12_meetsAct_51 (Nat.le_of_ble_eq_true rfl)) (fun x51 M51 h51 => ?_)
    obtain ⟨rfl, I51, rfl, t51, m51⟩ := h51
    exact v_iret (pc := 54) dX12_meetsAct_54 rfl rfl (Nat.le_of_ble_eq_true rfl) (Nat.le_of_ble_eq_true rfl) (by first | exact ⟨rfl, _, rfl, t92, m92⟩ | exact ⟨rfl, _, rfl, by have e := t51; rw [List.append_assoc] at e; exact e, mR_tr m43 m51⟩ | exact ⟨rfl, _, rfl, by have e := t64; rw [List.append_assoc] at e; exact e, mR_tr m58 m64⟩ | exact ⟨rfl, _, rfl, by have e := t78; rw [List.append_assoc] at e; exact e, mR_tr m72 m78⟩)
  · refine v_tableIn (pc := 6) (tgt := 69) dX12_meetsAct_6 (by decide) (by decide) rfl (by decide) ?_
    refine v_aload_n (pc := 69) dX12_meetsAct_69 rfl rfl ?_
    refine v_bipush (pc := 70) (v := nI 71) dX12_meetsAct_70 (by decide) ?_
    refine v_cv (pc := 72) (v_rV (c_X12_body G l hL h (by (try simp only [List.length_append, List.length_cons, List.length_nil]); omega)) rfl kV_X12_356 (v_rcO (li_55 hL) rfl (by decide)) ⟨Nat.le_of_ble_eq_true rfl, Nat.le_of_ble_eq_true rfl⟩ ⟨Nat.le_of_ble_eq_true rfl, Nat.le_of_ble_eq_true rfl⟩ dX12_meetsAct_72 (Nat.le_of_ble_eq_true rfl)) (fun M72 h72 => ?_)
    obtain ⟨I72, rfl, t72, m72⟩ := h72
    refine v_aload_n (pc := 75) dX12_meetsAct_75 rfl rfl ?_
    refine v_iload_n (pc := 76) dX12_meetsAct_76 rfl rfl ?_
    refine v_iload_n (pc := 77) dX12_meetsAct_77 rfl rfl ?_
    refine v_ci (pc := 78) (v_rV (c_X12_personMeets G l hL t72 (by (try simp only [List.length_append, List.length_cons, List.length_nil]); omega)) rfl kV_X12_359 (v_rcO (li_55 hL) rfl (by decide)) ⟨Nat.le_of_ble_eq_true rfl, Nat.le_of_ble_eq_true rfl⟩ ⟨Nat.le_of_ble_eq_true rfl, Nat.le_of_ble_eq_true rfl⟩ dX12_meetsAct_78 (Nat.le_of_ble_eq_true rfl)) (fun x78 M78 h78 => ?_)
    obtain ⟨rfl, I78, rfl, t78, m78⟩ := h78
    refine v_aload_n (pc := 81) dX12_meetsAct_81 rfl rfl ?_
    refine v_getH (pc := 82) fg_X12_23_12 dX12_meetsAct_82 (li_55 hL) (lr_55_4 hL) ?_
    refine v_iload_n (pc := 85) dX12_meetsAct_85 rfl rfl ?_
    refine v_ialoadN (pc := 86) dX12_meetsAct_86 (li_57 hL) ⟨by omega, by omega⟩ ((mR_h (mR_tr m72 m78) (by decide)).trans hv) ?_
    refine v_ixor (pc := 87) dX12_meetsAct_87 ?_
    exact v_iret (pc := 88) dX12_meetsAct_88 rfl rfl (Nat.le_of_ble_eq_true rfl) (Nat.le_of_ble_eq_true rfl) (by first | exact ⟨rfl, _, rfl, t92, m92⟩ | exact ⟨rfl, _, rfl, by have e := t51; rw [List.append_assoc] at e; exact e, mR_tr m43 m51⟩ | exact ⟨rfl, _, rfl, by have e := t64; rw [List.append_assoc] at e; exact e, mR_tr m58 m64⟩ | exact ⟨rfl, _, rfl, by have e := t78; rw [List.append_assoc] at e; exact e, mR_tr m72 m78⟩)
abbrev rm_X12_personCounts : Room := { frames := 3, cells := 0, slots := 0, locals := 65 }
set_option maxRecDepth 20000 in
theorem c_X12_personCounts (G : v_G) (l : Launch) {K : Nat × v_TY} {I : Nat → Nat → Int32} {J : Nat → Nat → Int64} {R : Nat → Nat → Option Nat} (hL : Lay K R) {i : Nat} {z : Int32} {k v : Nat} (hk : I 56 i = nI k ∧ k ≤ 6) (hv : I 57 i = nI v) (hi : i < 7) {tl : List Nat} (h : MTr I tl) (hl : tl.length ≤ 17) : v_M G l yX12_personCounts cX12_personCounts 3 (some .int) rm_X12_personCounts [.ref 55, .int (nI i), .int z] (K, I, J, R) (v_Qi G (fun (x : Int32) (M' : v_MM) => x = (a_pc k v i z).1 ∧ ∃ I', M' = (K, I', J, R) ∧ MTr I' (tl ++ (a_pc k v i z).2) ∧ mR I I')) := by
  refine v_of [some (.ref 55), some (.int (nI i)), some (.int z)] (by decide) (Nat.le_of_ble_eq_true rfl) (Nat.le_of_ble_eq_true rfl) rfl ?_
  refine v_aload_n (pc := 0) dX12_personCounts_0 rfl rfl ?_
  refine v_bipush (pc := 1) (v := nI 11) dX12_personCounts_1 (by decide) ?_
  refine v_cv (pc := 3) (v_rV (c_X12_body G l hL h (by (try simp only [List.length_append, List.length_cons, List.length_nil]); omega)) rfl kV_X12_356 (v_rcO (li_55 hL) rfl (by decide)) ⟨Nat.le_of_ble_eq_true rfl, Nat.le_of_ble_eq_true rfl⟩ ⟨Nat.le_of_ble_eq_true rfl, Nat.le_of_ble_eq_true rfl⟩ dX12_personCounts_3 (Nat.le_of_ble_eq_true rfl)) (fun M3 h3 => ?_)
  obtain ⟨I3, rfl, t3, m3⟩ := h3
  refine v_aload_n (pc := 6) dX12_personCounts_6 rfl rfl ?_
  refine v_iload_n (pc := 7) dX12_personCounts_7 rfl rfl ?_
  refine v_iload_n (pc := 8) dX12_personCounts_8 rfl rfl ?_
  refine v_ci (pc := 9) (v_rV (c_X12_meetsAct G l hL ⟨(mR_h m3 (by decide)).trans hk.1, hk.2⟩ ((mR_h m3 (by decide)).trans hv) hi t3 (by (try simp only [List.length_append, List.length_cons, List.length_nil]); omega)) rfl kV_X12_362 (v_rcO (li_55 hL) rfl (by decide)) ⟨Nat.le_of_ble_eq_true rfl, Nat.le_of_ble_eq_true rfl⟩ ⟨Nat.le_of_ble_eq_true rfl, Nat.le_of_ble_eq_true rfl⟩ dX12_personCounts_9 (Nat.le_of_ble_eq_true rfl)) (fun x9 M9 h9 => ?_)
  obtain ⟨rfl, I9, rfl, t9, m9⟩ := h9
  refine v_aload_n (pc := 12) dX12_personCounts_12 rfl rfl ?_
  refine v_getH (pc := 13) fg_X12_23_12 dX12_personCounts_13 (li_55 hL) (lr_55_4 hL) ?_
  refine v_iload_n (pc := 16) dX12_personCounts_16 rfl rfl ?_
  refine v_ialoadN (pc := 17) dX12_personCounts_17 (li_57 hL) ⟨by omega, by omega⟩ ((mR_h (mR_tr m3 m9) (by decide)).trans hv) ?_
  refine v_isub (pc := 18) dX12_personCounts_18 ?_
  exact v_iret (pc := 19) dX12_personCounts_19 rfl rfl (Nat.le_of_ble_eq_true rfl) (Nat.le_of_ble_eq_true rfl) ⟨rfl, _, rfl, by have e := t9; rw [List.append_assoc] at e; exact e, mR_tr m3 m9⟩
abbrev rm_X12_weightyCounts : Room := { frames := 4, cells := 0, slots := 0, locals := 87 }
set_option maxRecDepth 20000 in
theorem c_X12_weightyCounts (G : v_G) (l : Launch) {K : Nat × v_TY} {I : Nat → Nat → Int32} {J : Nat → Nat → Int64} {R : Nat → Nat → Option Nat} (hL : Lay K R) {i : Nat} {z : Int32} {k v : Nat} (hk : I 56 i = nI k ∧ k ≤ 6) (hv : I 57 i = nI v) (hi : i < 7) {tl : List Nat} (h : MTr I tl) (hl : tl.length ≤ 16) : v_M G l yX12_weightyCounts cX12_weightyCounts 3 (some .int) rm_X12_weightyCounts [.ref 55, .int (nI i), .int z] (K, I, J, R) (v_Qi G (fun (x : Int32) (M' : v_MM) => x = (a_wc k v i z).1 ∧ ∃ I', M' = (K, I', J, R) ∧ MTr I' (tl ++ (a_wc k v i z).2) ∧ mR I I')) := by
  refine v_of [some (.ref 55), some (.int (nI i)), some (.int z)] (by decide) (Nat.le_of_ble_eq_true rfl) (Nat.le_of_ble_eq_true rfl) rfl ?_
  refine v_aload_n (pc := 0) dX12_weightyCounts_0 rfl rfl ?_
  refine v_bipush (pc := 1) (v := nI 20) dX12_weightyCounts_1 (by decide) ?_
  refine v_cv (pc := 3) (v_rV (c_X12_body G l hL h (by (try simp only [List.length_append, List.length_cons, List.length_nil]); omega)) rfl kV_X12_356 (v_rcO (li_55 hL) rfl (by decide)) ⟨Nat.le_of_ble_eq_true rfl, Nat.le_of_ble_eq_true rfl⟩ ⟨Nat.le_of_ble_eq_true rfl, Nat.le_of_ble_eq_true rfl⟩ dX12_weightyCounts_3 (Nat.le_of_ble_eq_true rfl)) (fun M3 h3 => ?_)
  obtain ⟨I3, rfl, t3, m3⟩ := h3
  refine v_aload_n (pc := 6) dX12_weightyCounts_6 rfl rfl ?_
  refine v_iload_n (pc := 7) dX12_weightyCounts_7 rfl rfl ?_
  refine v_iload_n (pc := 8) dX12_weightyCounts_8 rfl rfl ?_
  refine v_ci (pc := 9) (v_rV (c_X12_personCounts G l hL ⟨(mR_h m3 (by decide)).trans hk.1, hk.2⟩ ((mR_h m3 (by decide)).trans hv) hi t3 (by (try simp only [List.length_append, List.length_cons, List.length_nil]); omega)) rfl kV_X12_365 (v_rcO (li_55 hL) rfl (by decide)) ⟨Nat.le_of_ble_eq_true rfl, Nat.le_of_ble_eq_true rfl⟩ ⟨Nat.le_of_ble_eq_true rfl, Nat.le_of_ble_eq_true rfl⟩ dX12_weightyCounts_9 (Nat.le_of_ble_eq_true rfl)) (fun x9 M9 h9 => ?_)
  obtain ⟨rfl, I9, rfl, t9, m9⟩ := h9
  refine v_bipush (pc := 12) (v := nI 6) dX12_weightyCounts_12 (by decide) ?_
  refine v_ixor (pc := 14) dX12_weightyCounts_14 ?_
  exact v_iret (pc := 15) dX12_weightyCounts_15 rfl rfl (Nat.le_of_ble_eq_true rfl) (Nat.le_of_ble_eq_true rfl) ⟨rfl, _, rfl, by have e := t9; rw [List.append_assoc] at e; exact e, mR_tr m3 m9⟩
abbrev rm_X12_countsAct : Room := { frames := 5, cells := 0, slots := 0, locals := 109 }
set_option maxRecDepth 20000 in
theorem c_X12_countsAct (G : v_G) (l : Launch) {K : Nat × v_TY} {I : Nat → Nat → Int32} {J : Nat → Nat → Int64} {R : Nat → Nat → Option Nat} (hL : Lay K R) {i : Nat} {z : Int32} {k v : Nat} (hk : I 56 i = nI k ∧ k ≤ 6) (hv : I 57 i = nI v) (hi : i < 7) {tl : List Nat} (h : MTr I tl) (hl : tl.length ≤ 15) : v_M G l yX12_countsAct cX12_countsAct 4 (some .int) rm_X12_countsAct [.ref 55, .int (nI i), .int z] (K, I, J, R) (v_Qi G (fun (x : Int32) (M' : v_MM) => x = (a_c k v i z).1 ∧ ∃ I', M' = (K, I', J, R) ∧ MTr I' (tl ++ (a_c k v i z).2) ∧ mR I I')) := by
  refine v_of [some (.ref 55), some (.int (nI i)), some (.int z), none] (by decide) (Nat.le_of_ble_eq_true rfl) (Nat.le_of_ble_eq_true rfl) rfl ?_
  have hk6 := hk.2
  refine v_aload_n (pc := 0) dX12_countsAct_0 rfl rfl ?_
  refine v_getH (pc := 1) fg_X12_19_12 dX12_countsAct_1 (li_55 hL) (lr_55_3 hL) ?_
  refine v_iload_n (pc := 4) dX12_countsAct_4 rfl rfl ?_
  refine v_ialoadN (pc := 5) dX12_countsAct_5 (li_56 hL) ⟨by omega, by omega⟩ hk.1 ?_
  rcases (show k = 0 ∨ k = 1 ∨ k = 2 ∨ k = 3 ∨ k = 4 ∨ k = 5 ∨ k = 6 by omega) with rfl | rfl | rfl | rfl | rfl | rfl | rfl
  · refine v_lookup (pc := 6) (tgt := 84) dX12_countsAct_6 (by decide) rfl (by decide) ?_
    refine v_aload_n (pc := 84) dX12_countsAct_84 rfl rfl ?_
    refine v_iload_n (pc := 85) dX12_countsAct_85 rfl rfl ?_
    refine v_iload_n (pc := 86) dX12_countsAct_86 rfl rfl ?_
    refine v_ci (pc := 87) (v_rV (c_X12_personCounts G l hL ⟨(mR_h mR_rf (by decide)).trans hk.1, hk.2⟩ ((mR_h mR_rf (by decide)).trans hv) hi h (by (try simp only [List.length_append, List.length_cons, List.length_nil]); omega)) rfl kV_X12_365 (v_rcO (li_55 hL) rfl (by decide)) ⟨Nat.le_of_ble_eq_true rfl, Nat.le_of_ble_eq_true rfl⟩ ⟨Nat.le_of_ble_eq_true rfl, Nat.le_of_ble_eq_true rfl⟩ dX12_countsAct_87 (Nat.le_of_ble_eq_true rfl)) (fun x87 M87 h87 => ?_)
    obtain ⟨rfl, I87, rfl, t87, m87⟩ := h87
    exact v_iret (pc := 90) dX12_countsAct_90 rfl rfl (Nat.le_of_ble_eq_true rfl) (Nat.le_of_ble_eq_true rfl) (by first | exact ⟨rfl, _, rfl, t87, m87⟩ | exact ⟨rfl, _, rfl, t43, m43⟩ | exact ⟨rfl, _, rfl, by have e := t58; rw [List.append_assoc] at e; exact e, mR_tr m50 m58⟩ | exact ⟨rfl, _, rfl, by have e := t79; rw [List.append_assoc, List.append_assoc] at e; exact e, mR_tr m65 (mR_tr m71 m79)⟩)
  · refine v_lookup (pc := 6) (tgt := 40) dX12_countsAct_6 (by decide) rfl (by decide) ?_
    refine v_aload_n (pc := 40) dX12_countsAct_40 rfl rfl ?_
    refine v_iload_n (pc := 41) dX12_countsAct_41 rfl rfl ?_
    refine v_iload_n (pc := 42) dX12_countsAct_42 rfl rfl ?_
    refine v_ci (pc := 43) (v_rV (c_X12_weightyCounts G l hL ⟨(mR_h mR_rf (by decide)).trans hk.1, hk.2⟩ ((mR_h mR_rf (by decide)).trans hv) hi h (by (try simp only [List.length_append, List.length_cons, List.length_nil]); omega)) rfl kV_X12_368 (v_rcO (li_55 hL) rfl (by decide)) ⟨Nat.le_of_ble_eq_true rfl, Nat.le_of_ble_eq_true rfl⟩ ⟨Nat.le_of_ble_eq_true rfl, Nat.le_of_ble_eq_true rfl⟩ dX12_countsAct_43 (Nat.le_of_ble_eq_true rfl)) (fun x43 M43 h43 => ?_)
    obtain ⟨rfl, I43, rfl, t43, m43⟩ := h43
    exact v_iret (pc := 46) dX12_countsAct_46 rfl rfl (Nat.le_of_ble_eq_true rfl) (Nat.le_of_ble_eq_true rfl) (by first | exact ⟨rfl, _, rfl, t87, m87⟩ | exact ⟨rfl, _, rfl, t43, m43⟩ | exact ⟨rfl, _, rfl, by have e := t58; rw [List.append_assoc] at e; exact e, mR_tr m50 m58⟩ | exact ⟨rfl, _, rfl, by have e := t79; rw [List.append_assoc, List.append_assoc] at e; exact e, mR_tr m65 (mR_tr m71 m79)⟩)
  · refine v_lookup (pc := 6) (tgt := 84) dX12_countsAct_6 (by decide) rfl (by decide) ?_
    refine v_aload_n (pc := 84) dX12_countsAct_84 rfl rfl ?_
    refine v_iload_n (pc := 85) dX12_countsAct_85 rfl rfl ?_
    refine v_iload_n (pc := 86) dX12_countsAct_86 rfl rfl ?_
    refine v_ci (pc := 87) (v_rV (c_X12_personCounts G l hL ⟨(mR_h mR_rf (by decide)).trans hk.1, hk.2⟩ ((mR_h mR_rf (by decide)).trans hv) hi h (by (try simp only [List.length_append, List.length_cons, List.length_nil]); omega)) rfl kV_X12_365 (v_rcO (li_55 hL) rfl (by decide)) ⟨Nat.le_of_ble_eq_true rfl, Nat.le_of_ble_eq_true rfl⟩ ⟨Nat.le_of_ble_eq_true rfl, Nat.le_of_ble_eq_true rfl⟩ dX12_countsAct_87 (Nat.le_of_ble_eq_true rfl)) (fun x87 M87 h87 => ?_)
    obtain ⟨rfl, I87, rfl, t87, m87⟩ := h87
    exact v_iret (pc := 90) dX12_countsAct_90 rfl rfl (Nat.le_of_ble_eq_true rfl) (Nat.le_of_ble_eq_true rfl) (by first | exact ⟨rfl, _, rfl, t87, m87⟩ | exact ⟨rfl, _, rfl, t43, m43⟩ | exact ⟨rfl, _, rfl, by have e := t58; rw [List.append_assoc] at e; exact e, mR_tr m50 m58⟩ | exact ⟨rfl, _, rfl, by have e := t79; rw [List.append_assoc, List.append_assoc] at e; exact e, mR_tr m65 (mR_tr m71 m79)⟩)
  · refine v_lookup (pc := 6) (tgt := 84) dX12_countsAct_6 (by decide) rfl (by decide) ?_
    refine v_aload_n (pc := 84) dX12_countsAct_84 rfl rfl ?_
    refine v_iload_n (pc := 85) dX12_countsAct_85 rfl rfl ?_
    refine v_iload_n (pc := 86) dX12_countsAct_86 rfl rfl ?_
    refine v_ci (pc := 87) (v_rV (c_X12_personCounts G l hL ⟨(mR_h mR_rf (by decide)).trans hk.1, hk.2⟩ ((mR_h mR_rf (by decide)).trans hv) hi h (by (try simp only [List.length_append, List.length_cons, List.length_nil]); omega)) rfl kV_X12_365 (v_rcO (li_55 hL) rfl (by decide)) ⟨Nat.le_of_ble_eq_true rfl, Nat.le_of_ble_eq_true rfl⟩ ⟨Nat.le_of_ble_eq_true rfl, Nat.le_of_ble_eq_true rfl⟩ dX12_countsAct_87 (Nat.le_of_ble_eq_true rfl)) (fun x87 M87 h87 => ?_)
    obtain ⟨rfl, I87, rfl, t87, m87⟩ := h87
    exact v_iret (pc := 90) dX12_countsAct_90 rfl rfl (Nat.le_of_ble_eq_true rfl) (Nat.le_of_ble_eq_true rfl) (by first | exact ⟨rfl, _, rfl, t87, m87⟩ | exact ⟨rfl, _, rfl, t43, m43⟩ | exact ⟨rfl, _, rfl, by have e := t58; rw [List.append_assoc] at e; exact e, mR_tr m50 m58⟩ | exact ⟨rfl, _, rfl, by have e := t79; rw [List.append_assoc, List.append_assoc] at e; exact e, mR_tr m65 (mR_tr m71 m79)⟩)
  · refine v_lookup (pc := 6) (tgt := 47) dX12_countsAct_6 (by decide) rfl (by decide) ?_
    refine v_aload_n (pc := 47) dX12_countsAct_47 rfl rfl ?_
    refine v_bipush (pc := 48) (v := nI 51) dX12_countsAct_48 (by decide) ?_
    refine v_cv (pc := 50) (v_rV (c_X12_body G l hL h (by (try simp only [List.length_append, List.length_cons, List.length_nil]); omega)) rfl kV_X12_356 (v_rcO (li_55 hL) rfl (by decide)) ⟨Nat.le_of_ble_eq_true rfl, Nat.le_of_ble_eq_true rfl⟩ ⟨Nat.le_of_ble_eq_true rfl, Nat.le_of_ble_eq_true rfl⟩ dX12_countsAct_50 (Nat.le_of_ble_eq_true rfl)) (fun M50 h50 => ?_)
    obtain ⟨I50, rfl, t50, m50⟩ := h50
    refine v_aload_n (pc := 53) dX12_countsAct_53 rfl rfl ?_
    refine v_iload_n (pc := 54) dX12_countsAct_54 rfl rfl ?_
    refine v_iload_n (pc := 55) dX12_countsAct_55 rfl rfl ?_
    refine v_iconst (pc := 56) (v := nI 1) dX12_countsAct_56 (by decide) ?_
    refine v_iadd (pc := 57) dX12_countsAct_57 ?_
    refine v_ci (pc := 58) (v_rV (c_X12_weightyCounts G l hL ⟨(mR_h m50 (by decide)).trans hk.1, hk.2⟩ ((mR_h m50 (by decide)).trans hv) hi t50 (by (try simp only [List.length_append, List.length_cons, List.length_nil]); omega)) rfl kV_X12_368 (v_rcO (li_55 hL) rfl (by decide)) ⟨Nat.le_of_ble_eq_true rfl, Nat.le_of_ble_eq_true rfl⟩ ⟨Nat.le_of_ble_eq_true rfl, Nat.le_of_ble_eq_true rfl⟩ dX12_countsAct_58 (Nat.le_of_ble_eq_true rfl)) (fun x58 M58 h58 => ?_)
    obtain ⟨rfl, I58, rfl, t58, m58⟩ := h58
    exact v_iret (pc := 61) dX12_countsAct_61 rfl rfl (Nat.le_of_ble_eq_true rfl) (Nat.le_of_ble_eq_true rfl) (by first | exact ⟨rfl, _, rfl, t87, m87⟩ | exact ⟨rfl, _, rfl, t43, m43⟩ | exact ⟨rfl, _, rfl, by have e := t58; rw [List.append_assoc] at e; exact e, mR_tr m50 m58⟩ | exact ⟨rfl, _, rfl, by have e := t79; rw [List.append_assoc, List.append_assoc] at e; exact e, mR_tr m65 (mR_tr m71 m79)⟩)
  · refine v_lookup (pc := 6) (tgt := 84) dX12_countsAct_6 (by decide) rfl (by decide) ?_
    refine v_aload_n (pc := 84) dX12_countsAct_84 rfl rfl ?_
    refine v_iload_n (pc := 85) dX12_countsAct_85 rfl rfl ?_
    refine v_iload_n (pc := 86) dX12_countsAct_86 rfl rfl ?_
    refine v_ci (pc := 87) (v_rV (c_X12_personCounts G l hL ⟨(mR_h mR_rf (by decide)).trans hk.1, hk.2⟩ ((mR_h mR_rf (by decide)).trans hv) hi h (by (try simp only [List.length_append, List.length_cons, List.length_nil]); omega)) rfl kV_X12_365 (v_rcO (li_55 hL) rfl (by decide)) ⟨Nat.le_of_ble_eq_true rfl, Nat.le_of_ble_eq_true rfl⟩ ⟨Nat.le_of_ble_eq_true rfl, Nat.le_of_ble_eq_true rfl⟩ dX12_countsAct_87 (Nat.le_of_ble_eq_true rfl)) (fun x87 M87 h87 => ?_)
    obtain ⟨rfl, I87, rfl, t87, m87⟩ := h87
    exact v_iret (pc := 90) dX12_countsAct_90 rfl rfl (Nat.le_of_ble_eq_true rfl) (Nat.le_of_ble_eq_true rfl) (by first | exact ⟨rfl, _, rfl, t87, m87⟩ | exact ⟨rfl, _, rfl, t43, m43⟩ | exact ⟨rfl, _, rfl, by have e := t58; rw [List.append_assoc] at e; exact e, mR_tr m50 m58⟩ | exact ⟨rfl, _, rfl, by have e := t79; rw [List.append_assoc, List.append_assoc] at e; exact e, mR_tr m65 (mR_tr m71 m79)⟩)
  · refine v_lookup (pc := 6) (tgt := 62) dX12_countsAct_6 (by decide) rfl (by decide) ?_
    refine v_aload_n (pc := 62) dX12_countsAct_62 rfl rfl ?_
    refine v_bipush (pc := 63) (v := nI 70) dX12_countsAct_63 (by decide) ?_
    refine v_cv (pc := 65) (v_rV (c_X12_body G l hL h (by (try simp only [List.length_append, List.length_cons, List.length_nil]); omega)) rfl kV_X12_356 (v_rcO (li_55 hL) rfl (by decide)) ⟨Nat.le_of_ble_eq_true rfl, Nat.le_of_ble_eq_true rfl⟩ ⟨Nat.le_of_ble_eq_true rfl, Nat.le_of_ble_eq_true rfl⟩ dX12_countsAct_65 (Nat.le_of_ble_eq_true rfl)) (fun M65 h65 => ?_)
    obtain ⟨I65, rfl, t65, m65⟩ := h65
    refine v_aload_n (pc := 68) dX12_countsAct_68 rfl rfl ?_
    refine v_iload_n (pc := 69) dX12_countsAct_69 rfl rfl ?_
    refine v_iload_n (pc := 70) dX12_countsAct_70 rfl rfl ?_
    refine v_ci (pc := 71) (v_rV (c_X12_personCounts G l hL ⟨(mR_h m65 (by decide)).trans hk.1, hk.2⟩ ((mR_h m65 (by decide)).trans hv) hi t65 (by (try simp only [List.length_append, List.length_cons, List.length_nil]); omega)) rfl kV_X12_365 (v_rcO (li_55 hL) rfl (by decide)) ⟨Nat.le_of_ble_eq_true rfl, Nat.le_of_ble_eq_true rfl⟩ ⟨Nat.le_of_ble_eq_true rfl, Nat.le_of_ble_eq_true rfl⟩ dX12_countsAct_71 (Nat.le_of_ble_eq_true rfl)) (fun x71 M71 h71 => ?_)
    obtain ⟨rfl, I71, rfl, t71, m71⟩ := h71
    refine v_istore_n (pc := 74) dX12_countsAct_74 rfl (by decide) rfl ?_
    refine v_iload_n (pc := 75) dX12_countsAct_75 rfl rfl ?_
    refine v_aload_n (pc := 76) dX12_countsAct_76 rfl rfl ?_
    refine v_iload_n (pc := 77) dX12_countsAct_77 rfl rfl ?_
    refine v_iconst (pc := 78) (v := nI 2) dX12_countsAct_78 (by decide) ?_
    refine v_ci (pc := 79) (v_rV (c_X12_personMeets G l hL t71 (by have := a_pc_l 6 v i z; simp only [List.length_append, List.length_cons, List.length_nil]; omega)) rfl kV_X12_359 (v_rcO (li_55 hL) rfl (by decide)) ⟨Nat.le_of_ble_eq_true rfl, Nat.le_of_ble_eq_true rfl⟩ ⟨Nat.le_of_ble_eq_true rfl, Nat.le_of_ble_eq_true rfl⟩ dX12_countsAct_79 (Nat.le_of_ble_eq_true rfl)) (fun x79 M79 h79 => ?_)
    obtain ⟨rfl, I79, rfl, t79, m79⟩ := h79
    refine v_iadd (pc := 82) dX12_countsAct_82 ?_
    exact v_iret (pc := 83) dX12_countsAct_83 rfl rfl (Nat.le_of_ble_eq_true rfl) (Nat.le_of_ble_eq_true rfl) (by first | exact ⟨rfl, _, rfl, t87, m87⟩ | exact ⟨rfl, _, rfl, t43, m43⟩ | exact ⟨rfl, _, rfl, by have e := t58; rw [List.append_assoc] at e; exact e, mR_tr m50 m58⟩ | exact ⟨rfl, _, rfl, by have e := t79; rw [List.append_assoc, List.append_assoc] at e; exact e, mR_tr m65 (mR_tr m71 m79)⟩)
abbrev rm_X12_personTells : Room := { frames := 6, cells := 0, slots := 0, locals := 132 }
set_option maxRecDepth 20000 in
theorem c_X12_personTells (G : v_G) (l : Launch) {K : Nat × v_TY} {I : Nat → Nat → Int32} {J : Nat → Nat → Int64} {R : Nat → Nat → Option Nat} (hL : Lay K R) {i : Nat} {z : Int32} {k v : Nat} (hk : I 56 i = nI k ∧ k ≤ 6) (hv : I 57 i = nI v) (hi : i < 7) {tl : List Nat} (h : MTr I tl) (hl : tl.length ≤ 14) : v_M G l yX12_personTells cX12_personTells 3 (some .int) rm_X12_personTells [.ref 55, .int (nI i), .int z] (K, I, J, R) (v_Qi G (fun (x : Int32) (M' : v_MM) => x = (a_pt k v i z).1 ∧ ∃ I', M' = (K, I', J, R) ∧ MTr I' (tl ++ (a_pt k v i z).2) ∧ mR I I')) := by
  refine v_of [some (.ref 55), some (.int (nI i)), some (.int z)] (by decide) (Nat.le_of_ble_eq_true rfl) (Nat.le_of_ble_eq_true rfl) rfl ?_
  refine v_aload_n (pc := 0) dX12_personTells_0 rfl rfl ?_
  refine v_bipush (pc := 1) (v := nI 12) dX12_personTells_1 (by decide) ?_
  refine v_cv (pc := 3) (v_rV (c_X12_body G l hL h (by (try simp only [List.length_append, List.length_cons, List.length_nil]); omega)) rfl kV_X12_356 (v_rcO (li_55 hL) rfl (by decide)) ⟨Nat.le_of_ble_eq_true rfl, Nat.le_of_ble_eq_true rfl⟩ ⟨Nat.le_of_ble_eq_true rfl, Nat.le_of_ble_eq_true rfl⟩ dX12_personTells_3 (Nat.le_of_ble_eq_true rfl)) (fun M3 h3 => ?_)
  obtain ⟨I3, rfl, t3, m3⟩ := h3
  refine v_aload_n (pc := 6) dX12_personTells_6 rfl rfl ?_
  refine v_iload_n (pc := 7) dX12_personTells_7 rfl rfl ?_
  refine v_iload_n (pc := 8) dX12_personTells_8 rfl rfl ?_
  refine v_ci (pc := 9) (v_rV (c_X12_countsAct G l hL ⟨(mR_h m3 (by decide)).trans hk.1, hk.2⟩ ((mR_h m3 (by decide)).trans hv) hi t3 (by (try simp only [List.length_append, List.length_cons, List.length_nil]); omega)) rfl kV_X12_371 (v_rcO (li_55 hL) rfl (by decide)) ⟨Nat.le_of_ble_eq_true rfl, Nat.le_of_ble_eq_true rfl⟩ ⟨Nat.le_of_ble_eq_true rfl, Nat.le_of_ble_eq_true rfl⟩ dX12_personTells_9 (Nat.le_of_ble_eq_true rfl)) (fun x9 M9 h9 => ?_)
  obtain ⟨rfl, I9, rfl, t9, m9⟩ := h9
  refine v_iconst (pc := 12) (v := nI 2) dX12_personTells_12 (by decide) ?_
  refine v_imul (pc := 13) dX12_personTells_13 ?_
  exact v_iret (pc := 14) dX12_personTells_14 rfl rfl (Nat.le_of_ble_eq_true rfl) (Nat.le_of_ble_eq_true rfl) ⟨rfl, _, rfl, by have e := t9; rw [List.append_assoc] at e; exact e, mR_tr m3 m9⟩
abbrev rm_X12_tellsAct : Room := { frames := 7, cells := 0, slots := 0, locals := 154 }
set_option maxRecDepth 20000 in
theorem c_X12_tellsAct (G : v_G) (l : Launch) {K : Nat × v_TY} {I : Nat → Nat → Int32} {J : Nat → Nat → Int64} {R : Nat → Nat → Option Nat} (hL : Lay K R) {i : Nat} {z : Int32} {k v : Nat} (hk : I 56 i = nI k ∧ k ≤ 6) (hv : I 57 i = nI v) (hi : i < 7) {tl : List Nat} (h : MTr I tl) (hl : tl.length ≤ 8) : v_M G l yX12_tellsAct cX12_tellsAct 4 (some .int) rm_X12_tellsAct [.ref 55, .int (nI i), .int z] (K, I, J, R) (v_Qi G (fun (x : Int32) (M' : v_MM) => x = (a_t k v i z).1 ∧ ∃ I', M' = (K, I', J, R) ∧ MTr I' (tl ++ (a_t k v i z).2) ∧ mR I I')) := by
  refine v_of [some (.ref 55), some (.int (nI i)), some (.int z), none] (by decide) (Nat.le_of_ble_eq_true rfl) (Nat.le_of_ble_eq_true rfl) rfl ?_
  have hk6 := hk.2
  refine v_aload_n (pc := 0) dX12_tellsAct_0 rfl rfl ?_
  refine v_getH (pc := 1) fg_X12_19_12 dX12_tellsAct_1 (li_55 hL) (lr_55_3 hL) ?_
  refine v_iload_n (pc := 4) dX12_tellsAct_4 rfl rfl ?_
  refine v_ialoadN (pc := 5) dX12_tellsAct_5 (li_56 hL) ⟨by omega, by omega⟩ hk.1 ?_
  rcases (show k = 0 ∨ k = 1 ∨ k = 2 ∨ k = 3 ∨ k = 4 ∨ k = 5 ∨ k = 6 by omega) with rfl | rfl | rfl | rfl | rfl | rfl | rfl
  · refine v_tableOut (pc := 6) (tgt := 73) dX12_tellsAct_6 (by decide) (by decide) ?_
    refine v_aload_n (pc := 73) dX12_tellsAct_73 rfl rfl ?_
    refine v_iload_n (pc := 74) dX12_tellsAct_74 rfl rfl ?_
    refine v_iload_n (pc := 75) dX12_tellsAct_75 rfl rfl ?_
    refine v_ci (pc := 76) (v_rV (c_X12_personTells G l hL ⟨(mR_h mR_rf (by decide)).trans hk.1, hk.2⟩ ((mR_h mR_rf (by decide)).trans hv) hi h (by (try simp only [List.length_append, List.length_cons, List.length_nil]); omega)) rfl kV_X12_374 (v_rcO (li_55 hL) rfl (by decide)) ⟨Nat.le_of_ble_eq_true rfl, Nat.le_of_ble_eq_true rfl⟩ ⟨Nat.le_of_ble_eq_true rfl, Nat.le_of_ble_eq_true rfl⟩ dX12_tellsAct_76 (Nat.le_of_ble_eq_true rfl)) (fun x76 M76 h76 => ?_)
    obtain ⟨rfl, I76, rfl, t76, m76⟩ := h76
    exact v_iret (pc := 79) dX12_tellsAct_79 rfl rfl (Nat.le_of_ble_eq_true rfl) (Nat.le_of_ble_eq_true rfl) (by first | exact ⟨rfl, _, rfl, t76, m76⟩ | exact ⟨rfl, _, rfl, by have e := t69; rw [List.append_assoc] at e; exact e, mR_tr m61 m69⟩ | exact ⟨rfl, _, rfl, by have e := t53; rw [List.append_assoc, List.append_assoc] at e; exact e, mR_tr m39 (mR_tr m45 m53)⟩)
  · refine v_tableOut (pc := 6) (tgt := 73) dX12_tellsAct_6 (by decide) (by decide) ?_
    refine v_aload_n (pc := 73) dX12_tellsAct_73 rfl rfl ?_
    refine v_iload_n (pc := 74) dX12_tellsAct_74 rfl rfl ?_
    refine v_iload_n (pc := 75) dX12_tellsAct_75 rfl rfl ?_
    refine v_ci (pc := 76) (v_rV (c_X12_personTells G l hL ⟨(mR_h mR_rf (by decide)).trans hk.1, hk.2⟩ ((mR_h mR_rf (by decide)).trans hv) hi h (by (try simp only [List.length_append, List.length_cons, List.length_nil]); omega)) rfl kV_X12_374 (v_rcO (li_55 hL) rfl (by decide)) ⟨Nat.le_of_ble_eq_true rfl, Nat.le_of_ble_eq_true rfl⟩ ⟨Nat.le_of_ble_eq_true rfl, Nat.le_of_ble_eq_true rfl⟩ dX12_tellsAct_76 (Nat.le_of_ble_eq_true rfl)) (fun x76 M76 h76 => ?_)
    obtain ⟨rfl, I76, rfl, t76, m76⟩ := h76
    exact v_iret (pc := 79) dX12_tellsAct_79 rfl rfl (Nat.le_of_ble_eq_true rfl) (Nat.le_of_ble_eq_true rfl) (by first | exact ⟨rfl, _, rfl, t76, m76⟩ | exact ⟨rfl, _, rfl, by have e := t69; rw [List.append_assoc] at e; exact e, mR_tr m61 m69⟩ | exact ⟨rfl, _, rfl, by have e := t53; rw [List.append_assoc, List.append_assoc] at e; exact e, mR_tr m39 (mR_tr m45 m53)⟩)
  · refine v_tableOut (pc := 6) (tgt := 73) dX12_tellsAct_6 (by decide) (by decide) ?_
    refine v_aload_n (pc := 73) dX12_tellsAct_73 rfl rfl ?_
    refine v_iload_n (pc := 74) dX12_tellsAct_74 rfl rfl ?_
    refine v_iload_n (pc := 75) dX12_tellsAct_75 rfl rfl ?_
    refine v_ci (pc := 76) (v_rV (c_X12_personTells G l hL ⟨(mR_h mR_rf (by decide)).trans hk.1, hk.2⟩ ((mR_h mR_rf (by decide)).trans hv) hi h (by (try simp only [List.length_append, List.length_cons, List.length_nil]); omega)) rfl kV_X12_374 (v_rcO (li_55 hL) rfl (by decide)) ⟨Nat.le_of_ble_eq_true rfl, Nat.le_of_ble_eq_true rfl⟩ ⟨Nat.le_of_ble_eq_true rfl, Nat.le_of_ble_eq_true rfl⟩ dX12_tellsAct_76 (Nat.le_of_ble_eq_true rfl)) (fun x76 M76 h76 => ?_)
    obtain ⟨rfl, I76, rfl, t76, m76⟩ := h76
    exact v_iret (pc := 79) dX12_tellsAct_79 rfl rfl (Nat.le_of_ble_eq_true rfl) (Nat.le_of_ble_eq_true rfl) (by first | exact ⟨rfl, _, rfl, t76, m76⟩ | exact ⟨rfl, _, rfl, by have e := t69; rw [List.append_assoc] at e; exact e, mR_tr m61 m69⟩ | exact ⟨rfl, _, rfl, by have e := t53; rw [List.append_assoc, List.append_assoc] at e; exact e, mR_tr m39 (mR_tr m45 m53)⟩)
  · refine v_tableIn (pc := 6) (tgt := 36) dX12_tellsAct_6 (by decide) (by decide) rfl (by decide) ?_
    refine v_aload_n (pc := 36) dX12_tellsAct_36 rfl rfl ?_
    refine v_bipush (pc := 37) (v := nI 40) dX12_tellsAct_37 (by decide) ?_
    refine v_cv (pc := 39) (v_rV (c_X12_body G l hL h (by (try simp only [List.length_append, List.length_cons, List.length_nil]); omega)) rfl kV_X12_356 (v_rcO (li_55 hL) rfl (by decide)) ⟨Nat.le_of_ble_eq_true rfl, Nat.le_of_ble_eq_true rfl⟩ ⟨Nat.le_of_ble_eq_true rfl, Nat.le_of_ble_eq_true rfl⟩ dX12_tellsAct_39 (Nat.le_of_ble_eq_true rfl)) (fun M39 h39 => ?_)
    obtain ⟨I39, rfl, t39, m39⟩ := h39
    refine v_aload_n (pc := 42) dX12_tellsAct_42 rfl rfl ?_
    refine v_iload_n (pc := 43) dX12_tellsAct_43 rfl rfl ?_
    refine v_iload_n (pc := 44) dX12_tellsAct_44 rfl rfl ?_
    refine v_ci (pc := 45) (v_rV (c_X12_personTells G l hL ⟨(mR_h m39 (by decide)).trans hk.1, hk.2⟩ ((mR_h m39 (by decide)).trans hv) hi t39 (by (try simp only [List.length_append, List.length_cons, List.length_nil]); omega)) rfl kV_X12_374 (v_rcO (li_55 hL) rfl (by decide)) ⟨Nat.le_of_ble_eq_true rfl, Nat.le_of_ble_eq_true rfl⟩ ⟨Nat.le_of_ble_eq_true rfl, Nat.le_of_ble_eq_true rfl⟩ dX12_tellsAct_45 (Nat.le_of_ble_eq_true rfl)) (fun x45 M45 h45 => ?_)
    obtain ⟨rfl, I45, rfl, t45, m45⟩ := h45
    refine v_istore_n (pc := 48) dX12_tellsAct_48 rfl (by decide) rfl ?_
    refine v_iload_n (pc := 49) dX12_tellsAct_49 rfl rfl ?_
    refine v_aload_n (pc := 50) dX12_tellsAct_50 rfl rfl ?_
    refine v_iload_n (pc := 51) dX12_tellsAct_51 rfl rfl ?_
    refine v_iconst (pc := 52) (v := nI 1) dX12_tellsAct_52 (by decide) ?_
    refine v_ci (pc := 53) (v_rV (c_X12_countsAct G l hL ⟨(mR_h (mR_tr m39 m45) (by decide)).trans hk.1, hk.2⟩ ((mR_h (mR_tr m39 m45) (by decide)).trans hv) hi t45 (by have e3 := a_pt_l 3 v i z; have e6 := a_pt_l 6 v i z; simp only [List.length_append, List.length_cons, List.length_nil]; omega)) rfl kV_X12_371 (v_rcO (li_55 hL) rfl (by decide)) ⟨Nat.le_of_ble_eq_true rfl, Nat.le_of_ble_eq_true rfl⟩ ⟨Nat.le_of_ble_eq_true rfl, Nat.le_of_ble_eq_true rfl⟩ dX12_tellsAct_53 (Nat.le_of_ble_eq_true rfl)) (fun x53 M53 h53 => ?_)
    obtain ⟨rfl, I53, rfl, t53, m53⟩ := h53
    refine v_iadd (pc := 56) dX12_tellsAct_56 ?_
    exact v_iret (pc := 57) dX12_tellsAct_57 rfl rfl (Nat.le_of_ble_eq_true rfl) (Nat.le_of_ble_eq_true rfl) (by first | exact ⟨rfl, _, rfl, t76, m76⟩ | exact ⟨rfl, _, rfl, by have e := t69; rw [List.append_assoc] at e; exact e, mR_tr m61 m69⟩ | exact ⟨rfl, _, rfl, by have e := t53; rw [List.append_assoc, List.append_assoc] at e; exact e, mR_tr m39 (mR_tr m45 m53)⟩)
  · refine v_tableIn (pc := 6) (tgt := 73) dX12_tellsAct_6 (by decide) (by decide) rfl (by decide) ?_
    refine v_aload_n (pc := 73) dX12_tellsAct_73 rfl rfl ?_
    refine v_iload_n (pc := 74) dX12_tellsAct_74 rfl rfl ?_
    refine v_iload_n (pc := 75) dX12_tellsAct_75 rfl rfl ?_
    refine v_ci (pc := 76) (v_rV (c_X12_personTells G l hL ⟨(mR_h mR_rf (by decide)).trans hk.1, hk.2⟩ ((mR_h mR_rf (by decide)).trans hv) hi h (by (try simp only [List.length_append, List.length_cons, List.length_nil]); omega)) rfl kV_X12_374 (v_rcO (li_55 hL) rfl (by decide)) ⟨Nat.le_of_ble_eq_true rfl, Nat.le_of_ble_eq_true rfl⟩ ⟨Nat.le_of_ble_eq_true rfl, Nat.le_of_ble_eq_true rfl⟩ dX12_tellsAct_76 (Nat.le_of_ble_eq_true rfl)) (fun x76 M76 h76 => ?_)
    obtain ⟨rfl, I76, rfl, t76, m76⟩ := h76
    exact v_iret (pc := 79) dX12_tellsAct_79 rfl rfl (Nat.le_of_ble_eq_true rfl) (Nat.le_of_ble_eq_true rfl) (by first | exact ⟨rfl, _, rfl, t76, m76⟩ | exact ⟨rfl, _, rfl, by have e := t69; rw [List.append_assoc] at e; exact e, mR_tr m61 m69⟩ | exact ⟨rfl, _, rfl, by have e := t53; rw [List.append_assoc, List.append_assoc] at e; exact e, mR_tr m39 (mR_tr m45 m53)⟩)
  · refine v_tableIn (pc := 6) (tgt := 58) dX12_tellsAct_6 (by decide) (by decide) rfl (by decide) ?_
    refine v_aload_n (pc := 58) dX12_tellsAct_58 rfl rfl ?_
    refine v_bipush (pc := 59) (v := nI 60) dX12_tellsAct_59 (by decide) ?_
    refine v_cv (pc := 61) (v_rV (c_X12_body G l hL h (by (try simp only [List.length_append, List.length_cons, List.length_nil]); omega)) rfl kV_X12_356 (v_rcO (li_55 hL) rfl (by decide)) ⟨Nat.le_of_ble_eq_true rfl, Nat.le_of_ble_eq_true rfl⟩ ⟨Nat.le_of_ble_eq_true rfl, Nat.le_of_ble_eq_true rfl⟩ dX12_tellsAct_61 (Nat.le_of_ble_eq_true rfl)) (fun M61 h61 => ?_)
    obtain ⟨I61, rfl, t61, m61⟩ := h61
    refine v_aload_n (pc := 64) dX12_tellsAct_64 rfl rfl ?_
    refine v_iload_n (pc := 65) dX12_tellsAct_65 rfl rfl ?_
    refine v_iload_n (pc := 66) dX12_tellsAct_66 rfl rfl ?_
    refine v_iload_n (pc := 67) dX12_tellsAct_67 rfl rfl ?_
    refine v_isub (pc := 68) dX12_tellsAct_68 ?_
    refine v_ci (pc := 69) (v_rV (c_X12_personTells G l hL ⟨(mR_h m61 (by decide)).trans hk.1, hk.2⟩ ((mR_h m61 (by decide)).trans hv) hi t61 (by (try simp only [List.length_append, List.length_cons, List.length_nil]); omega)) rfl kV_X12_374 (v_rcO (li_55 hL) rfl (by decide)) ⟨Nat.le_of_ble_eq_true rfl, Nat.le_of_ble_eq_true rfl⟩ ⟨Nat.le_of_ble_eq_true rfl, Nat.le_of_ble_eq_true rfl⟩ dX12_tellsAct_69 (Nat.le_of_ble_eq_true rfl)) (fun x69 M69 h69 => ?_)
    obtain ⟨rfl, I69, rfl, t69, m69⟩ := h69
    exact v_iret (pc := 72) dX12_tellsAct_72 rfl rfl (Nat.le_of_ble_eq_true rfl) (Nat.le_of_ble_eq_true rfl) (by first | exact ⟨rfl, _, rfl, t76, m76⟩ | exact ⟨rfl, _, rfl, by have e := t69; rw [List.append_assoc] at e; exact e, mR_tr m61 m69⟩ | exact ⟨rfl, _, rfl, by have e := t53; rw [List.append_assoc, List.append_assoc] at e; exact e, mR_tr m39 (mR_tr m45 m53)⟩)
  · refine v_tableIn (pc := 6) (tgt := 36) dX12_tellsAct_6 (by decide) (by decide) rfl (by decide) ?_
    refine v_aload_n (pc := 36) dX12_tellsAct_36 rfl rfl ?_
    refine v_bipush (pc := 37) (v := nI 40) dX12_tellsAct_37 (by decide) ?_
    refine v_cv (pc := 39) (v_rV (c_X12_body G l hL h (by (try simp only [List.length_append, List.length_cons, List.length_nil]); omega)) rfl kV_X12_356 (v_rcO (li_55 hL) rfl (by decide)) ⟨Nat.le_of_ble_eq_true rfl, Nat.le_of_ble_eq_true rfl⟩ ⟨Nat.le_of_ble_eq_true rfl, Nat.le_of_ble_eq_true rfl⟩ dX12_tellsAct_39 (Nat.le_of_ble_eq_true rfl)) (fun M39 h39 => ?_)
    obtain ⟨I39, rfl, t39, m39⟩ := h39
    refine v_aload_n (pc := 42) dX12_tellsAct_42 rfl rfl ?_
    refine v_iload_n (pc := 43) dX12_tellsAct_43 rfl rfl ?_
    refine v_iload_n (pc := 44) dX12_tellsAct_44 rfl rfl ?_
    refine v_ci (pc := 45) (v_rV (c_X12_personTells G l hL ⟨(mR_h m39 (by decide)).trans hk.1, hk.2⟩ ((mR_h m39 (by decide)).trans hv) hi t39 (by (try simp only [List.length_append, List.length_cons, List.length_nil]); omega)) rfl kV_X12_374 (v_rcO (li_55 hL) rfl (by decide)) ⟨Nat.le_of_ble_eq_true rfl, Nat.le_of_ble_eq_true rfl⟩ ⟨Nat.le_of_ble_eq_true rfl, Nat.le_of_ble_eq_true rfl⟩ dX12_tellsAct_45 (Nat.le_of_ble_eq_true rfl)) (fun x45 M45 h45 => ?_)
    obtain ⟨rfl, I45, rfl, t45, m45⟩ := h45
    refine v_istore_n (pc := 48) dX12_tellsAct_48 rfl (by decide) rfl ?_
    refine v_iload_n (pc := 49) dX12_tellsAct_49 rfl rfl ?_
    refine v_aload_n (pc := 50) dX12_tellsAct_50 rfl rfl ?_
    refine v_iload_n (pc := 51) dX12_tellsAct_51 rfl rfl ?_
    refine v_iconst (pc := 52) (v := nI 1) dX12_tellsAct_52 (by decide) ?_
    refine v_ci (pc := 53) (v_rV (c_X12_countsAct G l hL ⟨(mR_h (mR_tr m39 m45) (by decide)).trans hk.1, hk.2⟩ ((mR_h (mR_tr m39 m45) (by decide)).trans hv) hi t45 (by have e3 := a_pt_l 3 v i z; have e6 := a_pt_l 6 v i z; simp only [List.length_append, List.length_cons, List.length_nil]; omega)) rfl kV_X12_371 (v_rcO (li_55 hL) rfl (by decide)) ⟨Nat.le_of_ble_eq_true rfl, Nat.le_of_ble_eq_true rfl⟩ ⟨Nat.le_of_ble_eq_true rfl, Nat.le_of_ble_eq_true rfl⟩ dX12_tellsAct_53 (Nat.le_of_ble_eq_true rfl)) (fun x53 M53 h53 => ?_)
    obtain ⟨rfl, I53, rfl, t53, m53⟩ := h53
    refine v_iadd (pc := 56) dX12_tellsAct_56 ?_
    exact v_iret (pc := 57) dX12_tellsAct_57 rfl rfl (Nat.le_of_ble_eq_true rfl) (Nat.le_of_ble_eq_true rfl) (by first | exact ⟨rfl, _, rfl, t76, m76⟩ | exact ⟨rfl, _, rfl, by have e := t69; rw [List.append_assoc] at e; exact e, mR_tr m61 m69⟩ | exact ⟨rfl, _, rfl, by have e := t53; rw [List.append_assoc, List.append_assoc] at e; exact e, mR_tr m39 (mR_tr m45 m53)⟩)
def w_act (b : BS) (ii aa x : Int32) : AR := match x_nat ii (b_n b), x_nat aa 3 with
  | some i, some 0 => a_m (b_k b i) (b_v b i) i x
  | some i, some 1 => a_c (b_k b i) (b_v b i) i x
  | some i, some 2 => a_t (b_k b i) (b_v b i) i x
  | _, _ => (0, [])
theorem MTr_0 {I : Nat → Nat → Int32} : MTr (v_u I 55 55 (nI 0)) [] := ⟨v_u_same, by decide, fun j x hj => by cases hj⟩
theorem mR_0 {I : Nat → Nat → Int32} {x : Int32} : mR I (v_u I 55 55 x) := fun a z _ n2 => if_neg n2
abbrev rm_X12_act : Room := { frames := 8, cells := 0, slots := 0, locals := 177 }
set_option maxRecDepth 20000 in
theorem c_X12_act (G : v_G) (l : Launch) {K : Nat × v_TY} {I : Nat → Nat → Int32} {J : Nat → Nat → Int64} {R : Nat → Nat → Option Nat} (hL : Lay K R) {ii aa z : Int32} {b : BS} {g : Nat} (h : MV I b g) : v_M G l yX12_act cX12_act 4 (some .int) rm_X12_act [.ref 55, .int ii, .int aa, .int z] (K, I, J, R) (v_Qi G (fun (x : Int32) (M' : v_MM) => x = (w_act b ii aa z).1 ∧ ∃ I', M' = (K, I', J, R) ∧ MTr I' (w_act b ii aa z).2 ∧ mR I I')) := by
  refine v_of [some (.ref 55), some (.int ii), some (.int aa), some (.int z)] (by decide) (Nat.le_of_ble_eq_true rfl) (Nat.le_of_ble_eq_true rfl) rfl ?_
  have hn := VBn h
  refine v_aload_n (pc := 0) dX12_act_0 rfl rfl ?_
  refine v_iconst (pc := 1) (v := nI 0) dX12_act_1 (by decide) ?_
  refine v_putI (pc := 2) pg_X12_178_12 (fun h => by cases h) dX12_act_2 (li_55 hL) rfl rfl ?_
  refine v_aload_n (pc := 5) dX12_act_5 rfl rfl ?_
  refine v_iload_n (pc := 6) dX12_act_6 rfl rfl ?_
  refine v_ci (pc := 7) (v_rV (c_X12_isPerson G l hL ((v_u_k (by decide)).trans (MVn h)) (by omega)) rfl kV_X12_213 (v_rcO (li_55 hL) rfl (by decide)) ⟨Nat.le_of_ble_eq_true rfl, Nat.le_of_ble_eq_true rfl⟩ ⟨Nat.le_of_ble_eq_true rfl, Nat.le_of_ble_eq_true rfl⟩ dX12_act_7 (Nat.le_of_ble_eq_true rfl)) (fun x7 M7 h7 => ?_)
  obtain ⟨rfl, rfl⟩ := h7
  refine v_if_eqP (pc := 10) (tgt := 23) dX12_act_10 (by decide) (fun c10 => ?_) (fun c10 => ?_)
  · have e1 := x_nat_n c10
    refine v_iconst (pc := 23) (v := nI 0) dX12_act_23 (by decide) ?_
    exact v_iret (pc := 24) dX12_act_24 rfl rfl (Nat.le_of_ble_eq_true rfl) (Nat.le_of_ble_eq_true rfl) ⟨by first | (simp only [w_act, e1]; rfl) | (simp only [w_act, e1, e2]; rfl), _, rfl, by first | (simp only [w_act, e1]; exact MTr_0) | (simp only [w_act, e1, e2]; exact MTr_0), mR_0⟩
  · obtain ⟨i, hi, ei, e1⟩ := x_nat_i c10 (by omega)
    refine v_aload_n (pc := 13) dX12_act_13 rfl rfl ?_
    refine v_iload_n (pc := 14) dX12_act_14 rfl rfl ?_
    refine v_iconst (pc := 15) (v := nI 0) dX12_act_15 (by decide) ?_
    refine v_iconst (pc := 16) (v := nI 2) dX12_act_16 (by decide) ?_
    refine v_ci (pc := 17) (v_rV (c_X12_in G l hL) rfl kV_X12_197 (v_rcO (li_55 hL) rfl (by decide)) ⟨Nat.le_of_ble_eq_true rfl, Nat.le_of_ble_eq_true rfl⟩ ⟨Nat.le_of_ble_eq_true rfl, Nat.le_of_ble_eq_true rfl⟩ dX12_act_17 (Nat.le_of_ble_eq_true rfl)) (fun x17 M17 h17 => ?_)
    obtain ⟨rfl, rfl⟩ := h17
    refine v_if_neP (pc := 20) (tgt := 25) dX12_act_20 (by decide) (fun c20 => ?_) (fun c20 => ?_)
    · subst ei
      have h3 := x_nat_i ((v_in_iff (m := 2) (by decide)).mp c20) (by decide)
      obtain ⟨a, ha, rfl, e2⟩ := h3
      rcases (show a = 0 ∨ a = 1 ∨ a = 2 by omega) with rfl | rfl | rfl
      · refine v_iload_n (pc := 25) dX12_act_25 rfl rfl ?_
        refine v_if_neN (pc := 26) (tgt := 38) (by omega) dX12_act_26 (by decide) (fun c26 => ?_) (fun c26 => ?_)
        · exact absurd rfl c26
        · refine v_aload_n (pc := 29) dX12_act_29 rfl rfl ?_
          refine v_iload_n (pc := 30) dX12_act_30 rfl rfl ?_
          refine v_iload_n (pc := 31) dX12_act_31 rfl rfl ?_
          refine v_ci (pc := 32) (v_rV (c_X12_meetsAct G l hL (k := b_k b i) (v := b_v b i) ⟨(v_u_h (by decide)).trans (MVk h (by omega)), VBk h i⟩ ((v_u_h (by decide)).trans (MVv h (by omega))) (by omega) MTr_0 (by decide)) rfl kV_X12_362 (v_rcO (li_55 hL) rfl (by decide)) ⟨Nat.le_of_ble_eq_true rfl, Nat.le_of_ble_eq_true rfl⟩ ⟨Nat.le_of_ble_eq_true rfl, Nat.le_of_ble_eq_true rfl⟩ dX12_act_32 (Nat.le_of_ble_eq_true rfl)) (fun x32 M32 h32 => ?_)
          obtain ⟨rfl, I32, rfl, t32, m32⟩ := h32
          refine v_goto (pc := 35) (tgt := 58) dX12_act_35 (by decide) ?_
          exact v_iret (pc := 58) dX12_act_58 rfl rfl (Nat.le_of_ble_eq_true rfl) (Nat.le_of_ble_eq_true rfl) ⟨by simp only [w_act, e1, e2], _, rfl, by simp only [w_act, e1, e2]; exact t32, mR_tr mR_0 m32⟩
      · refine v_iload_n (pc := 25) dX12_act_25 rfl rfl ?_
        refine v_if_neN (pc := 26) (tgt := 38) (by omega) dX12_act_26 (by decide) (fun c26 => ?_) (fun c26 => ?_)
        · refine v_iload_n (pc := 38) dX12_act_38 rfl rfl ?_
          refine v_iconst (pc := 39) (v := nI 1) dX12_act_39 (by decide) ?_
          refine v_icmp_neN (pc := 40) (tgt := 52) ⟨by omega, by omega⟩ dX12_act_40 (by decide) (fun c40 => ?_) (fun c40 => ?_)
          · exact absurd rfl c40
          · refine v_aload_n (pc := 43) dX12_act_43 rfl rfl ?_
            refine v_iload_n (pc := 44) dX12_act_44 rfl rfl ?_
            refine v_iload_n (pc := 45) dX12_act_45 rfl rfl ?_
            refine v_ci (pc := 46) (v_rV (c_X12_countsAct G l hL (k := b_k b i) (v := b_v b i) ⟨(v_u_h (by decide)).trans (MVk h (by omega)), VBk h i⟩ ((v_u_h (by decide)).trans (MVv h (by omega))) (by omega) MTr_0 (by decide)) rfl kV_X12_371 (v_rcO (li_55 hL) rfl (by decide)) ⟨Nat.le_of_ble_eq_true rfl, Nat.le_of_ble_eq_true rfl⟩ ⟨Nat.le_of_ble_eq_true rfl, Nat.le_of_ble_eq_true rfl⟩ dX12_act_46 (Nat.le_of_ble_eq_true rfl)) (fun x46 M46 h46 => ?_)
            obtain ⟨rfl, I46, rfl, t46, m46⟩ := h46
            refine v_goto (pc := 49) (tgt := 58) dX12_act_49 (by decide) ?_
            exact v_iret (pc := 58) dX12_act_58 rfl rfl (Nat.le_of_ble_eq_true rfl) (Nat.le_of_ble_eq_true rfl) ⟨by simp only [w_act, e1, e2], _, rfl, by simp only [w_act, e1, e2]; exact t46, mR_tr mR_0 m46⟩
        · exact absurd c26 (by decide)
      · refine v_iload_n (pc := 25) dX12_act_25 rfl rfl ?_
        refine v_if_neN (pc := 26) (tgt := 38) (by omega) dX12_act_26 (by decide) (fun c26 => ?_) (fun c26 => ?_)
        · refine v_iload_n (pc := 38) dX12_act_38 rfl rfl ?_
          refine v_iconst (pc := 39) (v := nI 1) dX12_act_39 (by decide) ?_
          refine v_icmp_neN (pc := 40) (tgt := 52) ⟨by omega, by omega⟩ dX12_act_40 (by decide) (fun c40 => ?_) (fun c40 => ?_)
          · refine v_aload_n (pc := 52) dX12_act_52 rfl rfl ?_
            refine v_iload_n (pc := 53) dX12_act_53 rfl rfl ?_
            refine v_iload_n (pc := 54) dX12_act_54 rfl rfl ?_
            refine v_ci (pc := 55) (v_rV (c_X12_tellsAct G l hL (k := b_k b i) (v := b_v b i) ⟨(v_u_h (by decide)).trans (MVk h (by omega)), VBk h i⟩ ((v_u_h (by decide)).trans (MVv h (by omega))) (by omega) MTr_0 (by decide)) rfl kV_X12_377 (v_rcO (li_55 hL) rfl (by decide)) ⟨Nat.le_of_ble_eq_true rfl, Nat.le_of_ble_eq_true rfl⟩ ⟨Nat.le_of_ble_eq_true rfl, Nat.le_of_ble_eq_true rfl⟩ dX12_act_55 (Nat.le_of_ble_eq_true rfl)) (fun x55 M55 h55 => ?_)
            obtain ⟨rfl, I55, rfl, t55, m55⟩ := h55
            exact v_iret (pc := 58) dX12_act_58 rfl rfl (Nat.le_of_ble_eq_true rfl) (Nat.le_of_ble_eq_true rfl) ⟨by simp only [w_act, e1, e2], _, rfl, by simp only [w_act, e1, e2]; exact t55, mR_tr mR_0 m55⟩
          · exact absurd c40 (by decide)
        · exact absurd c26 (by decide)
    · have e2 := x_nat_n (fun q => c20 ((v_in_iff (m := 2) (by decide)).mpr q))
      refine v_iconst (pc := 23) (v := nI 0) dX12_act_23 (by decide) ?_
      exact v_iret (pc := 24) dX12_act_24 rfl rfl (Nat.le_of_ble_eq_true rfl) (Nat.le_of_ble_eq_true rfl) ⟨by first | (simp only [w_act, e1]; rfl) | (simp only [w_act, e1, e2]; rfl), _, rfl, by first | (simp only [w_act, e1]; exact MTr_0) | (simp only [w_act, e1, e2]; exact MTr_0), mR_0⟩
