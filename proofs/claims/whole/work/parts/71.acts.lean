/-! THE CLASS: acts -/
def CTr (I : Nat → Nat → Int32) (t : List Nat) : Prop := I 39 1 = nI t.length ∧ t.length ≤ 20 ∧ ∀ (j x : Nat), t[j]? = some x → I 40 j = nI x
def kR (I I' : Nat → Nat → Int32) : Prop := ∀ a z, a ≠ 40 → ¬ (a = 39 ∧ z = 1) → I' a z = I a z
theorem kR_rf {I : Nat → Nat → Int32} : kR I I := fun _ _ _ _ => rfl
theorem kR_tr {I I' I'' : Nat → Nat → Int32} (h : kR I I') (h' : kR I' I'') : kR I I'' := fun a z n1 n2 => (h' a z n1 n2).trans (h a z n1 n2)
theorem kR_h {I I' : Nat → Nat → Int32} (h : kR I I') {a z : Nat} (n : 91 ≤ a) : I' a z = I a z := h a z (by omega) (by omega)
theorem CTr_s {I : Nat → Nat → Int32} {l : List Nat} {c : Nat} (h : CTr I l) (hl : l.length < 20) : CTr (v_u (v_u I 40 l.length (nI c)) 39 1 (nI (l.length + 1))) (l ++ [c]) := by
  refine ⟨by rw [v_u_same, List.length_append]; rfl, by rw [List.length_append]; show l.length + 1 ≤ 20; omega, fun j x hj => ?_⟩
  rw [v_u_h (by decide)]
  by_cases e : j < l.length
  · rw [v_u_k (by omega)]
    rw [List.getElem?_append_left e] at hj
    exact h.2.2 j x hj
  · have e2 : j = l.length := by
      have := (List.getElem?_eq_some_iff.mp hj).1
      rw [List.length_append] at this
      have : j < l.length + 1 := this
      omega
    subst e2
    rw [v_u_same]
    rw [List.getElem?_append_right (Nat.le_refl _), Nat.sub_self] at hj
    cases hj
    rfl
theorem CTr_0 {I : Nat → Nat → Int32} : CTr (v_u I 39 1 (nI 0)) [] := ⟨v_u_same, by decide, fun j x hj => by simp at hj⟩
theorem kR_0 {I : Nat → Nat → Int32} : kR I (v_u I 39 1 (nI 0)) := fun a z n1 n2 => if_neg n2
theorem PS_k {K : Nat × v_TY} {I I' : Nat → Nat → Int32} {a ci i k w : Nat} (h : PS K I a ci i k w) (e : kR I I') : PS K I' a ci i k w := PS_o h (fun z => kR_h e h.1)
theorem fg2_13 : ∀ k, v_fg yX2_meets.cls 13 (p_ci k) 1 false
  | 0 => fg_X2_13_2
  | 1 => fg_X2_13_10
  | 2 => fg_X2_13_3
  | 3 => fg_X2_13_1
  | 4 => fg_X2_13_0
  | 5 => fg_X2_13_4
  | n + 6 => fg_X2_13_6
theorem fg2_16 : ∀ k, v_fg yX2_counts.cls 16 (p_ci k) 2 false
  | 0 => fg_X2_16_2
  | 1 => fg_X2_16_10
  | 2 => fg_X2_16_3
  | 3 => fg_X2_16_1
  | 4 => fg_X2_16_0
  | 5 => fg_X2_16_4
  | n + 6 => fg_X2_16_6
abbrev rm_X8_begin : Room := { frames := 1, cells := 0, slots := 0, locals := 50 }
set_option maxRecDepth 20000 in
theorem c_X8_begin (G : v_G) (l : Launch) {K : Nat × v_TY} {I : Nat → Nat → Int32} {J : Nat → Nat → Int64} {R : Nat → Nat → Option Nat} (hL : Lay K R) {c : Nat} {tl : List Nat} (h : CTr I tl) (hl : tl.length < 20) : v_M G l yX8_begin cX8_begin 2 none rm_X8_begin [.ref 39, .int (nI c)] (K, I, J, R) (v_Qv G (fun (M' : v_MM) => ∃ I', M' = (K, I', J, R) ∧ CTr I' (tl ++ [c]) ∧ kR I I')) := by
  refine v_of [some (.ref 39), some (.int (nI c))] (by decide) (Nat.le_of_ble_eq_true rfl) (Nat.le_of_ble_eq_true rfl) rfl ?_
  refine v_aload_n (pc := 0) dX8_begin_0 rfl rfl ?_
  refine v_getV (pc := 1) fg_X8_15_8 dX8_begin_1 (li_39 hL) h.1 ?_
  refine v_if_ltN (pc := 4) (tgt := 26) (by omega) dX8_begin_4 (by decide) ?_
  refine v_aload_n (pc := 7) dX8_begin_7 rfl rfl ?_
  refine v_getV (pc := 8) fg_X8_15_8 dX8_begin_8 (li_39 hL) h.1 ?_
  refine v_bipush (pc := 11) (v := nI 20) dX8_begin_11 (by decide) ?_
  refine v_icmp_geN (pc := 13) (tgt := 26) ⟨by omega, by omega⟩ dX8_begin_13 (by decide) (fun c13 => ?_) (fun c13 => ?_)
  · exact absurd c13 (by omega)
  · refine v_aload_n (pc := 16) dX8_begin_16 rfl rfl ?_
    refine v_getH (pc := 17) fg_X8_9_8 dX8_begin_17 (li_39 hL) (lr_39_0 hL) ?_
    refine v_aload_n (pc := 20) dX8_begin_20 rfl rfl ?_
    refine v_getV (pc := 21) fg_X8_15_8 dX8_begin_21 (li_39 hL) h.1 ?_
    refine v_iload_n (pc := 24) dX8_begin_24 rfl rfl ?_
    refine v_iastoreN (pc := 25) dX8_begin_25 (li_40 hL) ⟨by omega, by omega⟩ ?_
    refine v_aload_n (pc := 26) dX8_begin_26 rfl rfl ?_
    refine v_dup (pc := 27) dX8_begin_27 rfl ?_
    refine v_getV (pc := 28) fg_X8_15_8 dX8_begin_28 (li_39 hL) ((v_u_h (by decide)).trans h.1) ?_
    refine v_iconst (pc := 31) (v := nI 1) dX8_begin_31 (by decide) ?_
    refine v_iaddN (pc := 32) dX8_begin_32 ?_
    refine v_putI (pc := 33) pg_X8_15_8 (fun h => by cases h) dX8_begin_33 (li_39 hL) rfl rfl ?_
    exact v_vret (pc := 36) dX8_begin_36 rfl (Nat.le_of_ble_eq_true rfl) (Nat.le_of_ble_eq_true rfl) ⟨_, rfl, CTr_s h hl, fun a z n1 n2 => by rw [show ∀ C y, v_u C 39 1 y a z = C a z from fun C y => if_neg n2, v_u_h n1]⟩
abbrev rm_X2_meets_s : Room := { frames := 3, cells := 0, slots := 0, locals := 120 }
set_option maxRecDepth 20000 in
theorem c_X2_meets_s (G : v_G) (l : Launch) {K : Nat × v_TY} {I : Nat → Nat → Int32} {J : Nat → Nat → Int64} {R : Nat → Nat → Option Nat} (hL : Lay K R) {a i k w : Nat} {z : Int32} {tl : List Nat} (hp : PS K I a (p_ci k) i k w) (hk : k ≤ 6) (h : CTr I tl) (hl : tl.length ≤ 19) : v_M G l yX2_meets cX2_meets 3 (some .int) rm_X2_meets_s [.ref a, .int z, .ref 39] (K, I, J, R) (v_Qi G (fun (x : Int32) (M' : v_MM) => x = (a_pm i z).1 ∧ ∃ I', M' = (K, I', J, R) ∧ CTr I' (tl ++ (a_pm i z).2) ∧ kR I I')) := by
  refine v_of [some (.ref a), some (.int z), some (.ref 39)] (by decide) (Nat.le_of_ble_eq_true rfl) (Nat.le_of_ble_eq_true rfl) rfl ?_
  refine v_aload_n (pc := 0) dX2_meets_0 rfl rfl ?_
  refine v_bipush (pc := 1) (v := nI 10) dX2_meets_1 (by decide) ?_
  refine v_cv (pc := 3) (v_rV (c_X8_begin G l hL h (by omega)) rfl kV_X2_19 (v_rcO (li_39 hL) rfl (by decide)) ⟨Nat.le_of_ble_eq_true rfl, Nat.le_of_ble_eq_true rfl⟩ ⟨Nat.le_of_ble_eq_true rfl, Nat.le_of_ble_eq_true rfl⟩ dX2_meets_3 (Nat.le_of_ble_eq_true rfl)) (fun M3 h3 => ?_)
  obtain ⟨I3, rfl, t3, m3⟩ := h3
  have hp3 := PS_k hp m3
  refine v_iload_n (pc := 6) dX2_meets_6 rfl rfl ?_
  refine v_aload_n (pc := 7) dX2_meets_7 rfl rfl ?_
  refine v_getV (pc := 8) (fg2_13 k) dX2_meets_8 hp3.2.1 hp3.2.2.2.1 ?_
  refine v_iadd (pc := 11) dX2_meets_11 ?_
  exact v_iret (pc := 12) dX2_meets_12 rfl rfl (Nat.le_of_ble_eq_true rfl) (Nat.le_of_ble_eq_true rfl) ⟨rfl, _, rfl, t3, m3⟩
abbrev rm_X2_meets : Room := { frames := 5, cells := 0, slots := 0, locals := 200 }
set_option maxRecDepth 20000 in
theorem c_X2_meets (G : v_G) (l : Launch) {K : Nat × v_TY} {I : Nat → Nat → Int32} {J : Nat → Nat → Int64} {R : Nat → Nat → Option Nat} (hL : Lay K R) {a i k w : Nat} {z : Int32} {tl : List Nat} (hp : PS K I a (p_ci k) i k w) (hk : k ≤ 6) (h : CTr I tl) (hl : tl.length ≤ 19) : v_M G l yX2_meets cX2_meets 3 (some .int) rm_X2_meets [.ref a, .int z, .ref 39] (K, I, J, R) (v_Qi G (fun (x : Int32) (M' : v_MM) => x = (a_pm i z).1 ∧ ∃ I', M' = (K, I', J, R) ∧ CTr I' (tl ++ (a_pm i z).2) ∧ kR I I')) := by
  refine v_of [some (.ref a), some (.int z), some (.ref 39)] (by decide) (Nat.le_of_ble_eq_true rfl) (Nat.le_of_ble_eq_true rfl) rfl ?_
  refine v_aload_n (pc := 0) dX2_meets_0 rfl rfl ?_
  refine v_bipush (pc := 1) (v := nI 10) dX2_meets_1 (by decide) ?_
  refine v_cv (pc := 3) (v_rV (c_X8_begin G l hL h (by omega)) rfl kV_X2_19 (v_rcO (li_39 hL) rfl (by decide)) ⟨Nat.le_of_ble_eq_true rfl, Nat.le_of_ble_eq_true rfl⟩ ⟨Nat.le_of_ble_eq_true rfl, Nat.le_of_ble_eq_true rfl⟩ dX2_meets_3 (Nat.le_of_ble_eq_true rfl)) (fun M3 h3 => ?_)
  obtain ⟨I3, rfl, t3, m3⟩ := h3
  have hp3 := PS_k hp m3
  refine v_iload_n (pc := 6) dX2_meets_6 rfl rfl ?_
  refine v_aload_n (pc := 7) dX2_meets_7 rfl rfl ?_
  refine v_getV (pc := 8) (fg2_13 k) dX2_meets_8 hp3.2.1 hp3.2.2.2.1 ?_
  refine v_iadd (pc := 11) dX2_meets_11 ?_
  exact v_iret (pc := 12) dX2_meets_12 rfl rfl (Nat.le_of_ble_eq_true rfl) (Nat.le_of_ble_eq_true rfl) ⟨rfl, _, rfl, t3, m3⟩
abbrev rm_X3_meets_2 : Room := { frames := 5, cells := 0, slots := 0, locals := 200 }
set_option maxRecDepth 20000 in
theorem c_X3_meets_2 (G : v_G) (l : Launch) {K : Nat × v_TY} {I : Nat → Nat → Int32} {J : Nat → Nat → Int64} {R : Nat → Nat → Option Nat} (hL : Lay K R) {a i w : Nat} {z : Int32} {tl : List Nat} (hp : PS K I a (p_ci 2) i 2 w) (h : CTr I tl) (hl : tl.length ≤ 18) : v_M G l yX3_meets cX3_meets 3 (some .int) rm_X3_meets_2 [.ref a, .int z, .ref 39] (K, I, J, R) (v_Qi G (fun (x : Int32) (M' : v_MM) => x = (a_m 2 w i z).1 ∧ ∃ I', M' = (K, I', J, R) ∧ CTr I' (tl ++ (a_m 2 w i z).2) ∧ kR I I')) := by
  refine v_of [some (.ref a), some (.int z), some (.ref 39)] (by decide) (Nat.le_of_ble_eq_true rfl) (Nat.le_of_ble_eq_true rfl) rfl ?_
  refine v_aload_n (pc := 0) dX3_meets_0 rfl rfl ?_
  refine v_bipush (pc := 1) (v := nI 30) dX3_meets_1 (by decide) ?_
  refine v_cv (pc := 3) (v_rV (c_X8_begin G l hL h (by omega)) rfl kV_X3_7 (v_rcO (li_39 hL) rfl (by decide)) ⟨Nat.le_of_ble_eq_true rfl, Nat.le_of_ble_eq_true rfl⟩ ⟨Nat.le_of_ble_eq_true rfl, Nat.le_of_ble_eq_true rfl⟩ dX3_meets_3 (Nat.le_of_ble_eq_true rfl)) (fun M3 h3 => ?_)
  obtain ⟨I3, rfl, t3, m3⟩ := h3
  have hp3 := PS_k hp m3
  refine v_aload_n (pc := 6) dX3_meets_6 rfl rfl ?_
  refine v_iload_n (pc := 7) dX3_meets_7 rfl rfl ?_
  refine v_iconst (pc := 8) (v := nI 3) dX3_meets_8 (by decide) ?_
  refine v_imul (pc := 9) dX3_meets_9 ?_
  refine v_aload_n (pc := 10) dX3_meets_10 rfl rfl ?_
  refine v_ci (pc := 11) (v_rP (c_X2_meets_s G l hL hp3 (by decide) t3 (by (try simp only [List.length_append, List.length_cons, List.length_nil]); omega)) rfl kP_X3_13 hp3.2.1 rfl (by decide) ⟨Nat.le_of_ble_eq_true rfl, Nat.le_of_ble_eq_true rfl⟩ ⟨Nat.le_of_ble_eq_true rfl, Nat.le_of_ble_eq_true rfl⟩ dX3_meets_11 (Nat.le_of_ble_eq_true rfl)) (fun x11 M11 h11 => ?_)
  obtain ⟨rfl, I11, rfl, t11, n11⟩ := h11
  have m11 := kR_tr m3 n11
  have hp11 := PS_k hp m11
  exact v_iret (pc := 14) dX3_meets_14 rfl rfl (Nat.le_of_ble_eq_true rfl) (Nat.le_of_ble_eq_true rfl) ⟨rfl, _, rfl, by have e := t11; rw [List.append_assoc] at e; exact e, m11⟩
abbrev rm_X3_meets_5 : Room := { frames := 5, cells := 0, slots := 0, locals := 200 }
set_option maxRecDepth 20000 in
theorem c_X3_meets_5 (G : v_G) (l : Launch) {K : Nat × v_TY} {I : Nat → Nat → Int32} {J : Nat → Nat → Int64} {R : Nat → Nat → Option Nat} (hL : Lay K R) {a i w : Nat} {z : Int32} {tl : List Nat} (hp : PS K I a (p_ci 5) i 5 w) (h : CTr I tl) (hl : tl.length ≤ 18) : v_M G l yX3_meets cX3_meets 3 (some .int) rm_X3_meets_5 [.ref a, .int z, .ref 39] (K, I, J, R) (v_Qi G (fun (x : Int32) (M' : v_MM) => x = (a_m 5 w i z).1 ∧ ∃ I', M' = (K, I', J, R) ∧ CTr I' (tl ++ (a_m 5 w i z).2) ∧ kR I I')) := by
  refine v_of [some (.ref a), some (.int z), some (.ref 39)] (by decide) (Nat.le_of_ble_eq_true rfl) (Nat.le_of_ble_eq_true rfl) rfl ?_
  refine v_aload_n (pc := 0) dX3_meets_0 rfl rfl ?_
  refine v_bipush (pc := 1) (v := nI 30) dX3_meets_1 (by decide) ?_
  refine v_cv (pc := 3) (v_rV (c_X8_begin G l hL h (by omega)) rfl kV_X3_7 (v_rcO (li_39 hL) rfl (by decide)) ⟨Nat.le_of_ble_eq_true rfl, Nat.le_of_ble_eq_true rfl⟩ ⟨Nat.le_of_ble_eq_true rfl, Nat.le_of_ble_eq_true rfl⟩ dX3_meets_3 (Nat.le_of_ble_eq_true rfl)) (fun M3 h3 => ?_)
  obtain ⟨I3, rfl, t3, m3⟩ := h3
  have hp3 := PS_k hp m3
  refine v_aload_n (pc := 6) dX3_meets_6 rfl rfl ?_
  refine v_iload_n (pc := 7) dX3_meets_7 rfl rfl ?_
  refine v_iconst (pc := 8) (v := nI 3) dX3_meets_8 (by decide) ?_
  refine v_imul (pc := 9) dX3_meets_9 ?_
  refine v_aload_n (pc := 10) dX3_meets_10 rfl rfl ?_
  refine v_ci (pc := 11) (v_rP (c_X2_meets_s G l hL hp3 (by decide) t3 (by (try simp only [List.length_append, List.length_cons, List.length_nil]); omega)) rfl kP_X3_13 hp3.2.1 rfl (by decide) ⟨Nat.le_of_ble_eq_true rfl, Nat.le_of_ble_eq_true rfl⟩ ⟨Nat.le_of_ble_eq_true rfl, Nat.le_of_ble_eq_true rfl⟩ dX3_meets_11 (Nat.le_of_ble_eq_true rfl)) (fun x11 M11 h11 => ?_)
  obtain ⟨rfl, I11, rfl, t11, n11⟩ := h11
  have m11 := kR_tr m3 n11
  have hp11 := PS_k hp m11
  exact v_iret (pc := 14) dX3_meets_14 rfl rfl (Nat.le_of_ble_eq_true rfl) (Nat.le_of_ble_eq_true rfl) ⟨rfl, _, rfl, by have e := t11; rw [List.append_assoc] at e; exact e, m11⟩
abbrev rm_X0_meets : Room := { frames := 5, cells := 0, slots := 0, locals := 200 }
set_option maxRecDepth 20000 in
theorem c_X0_meets (G : v_G) (l : Launch) {K : Nat × v_TY} {I : Nat → Nat → Int32} {J : Nat → Nat → Int64} {R : Nat → Nat → Option Nat} (hL : Lay K R) {a i w : Nat} {z : Int32} {tl : List Nat} (hp : PS K I a (p_ci 4) i 4 w) (h : CTr I tl) (hl : tl.length ≤ 18) : v_M G l yX0_meets cX0_meets 3 (some .int) rm_X0_meets [.ref a, .int z, .ref 39] (K, I, J, R) (v_Qi G (fun (x : Int32) (M' : v_MM) => x = (a_m 4 w i z).1 ∧ ∃ I', M' = (K, I', J, R) ∧ CTr I' (tl ++ (a_m 4 w i z).2) ∧ kR I I')) := by
  refine v_of [some (.ref a), some (.int z), some (.ref 39)] (by decide) (Nat.le_of_ble_eq_true rfl) (Nat.le_of_ble_eq_true rfl) rfl ?_
  refine v_aload_n (pc := 0) dX0_meets_0 rfl rfl ?_
  refine v_bipush (pc := 1) (v := nI 50) dX0_meets_1 (by decide) ?_
  refine v_cv (pc := 3) (v_rV (c_X8_begin G l hL h (by omega)) rfl kV_X0_23 (v_rcO (li_39 hL) rfl (by decide)) ⟨Nat.le_of_ble_eq_true rfl, Nat.le_of_ble_eq_true rfl⟩ ⟨Nat.le_of_ble_eq_true rfl, Nat.le_of_ble_eq_true rfl⟩ dX0_meets_3 (Nat.le_of_ble_eq_true rfl)) (fun M3 h3 => ?_)
  obtain ⟨I3, rfl, t3, m3⟩ := h3
  have hp3 := PS_k hp m3
  refine v_aload_n (pc := 6) dX0_meets_6 rfl rfl ?_
  refine v_iload_n (pc := 7) dX0_meets_7 rfl rfl ?_
  refine v_aload_n (pc := 8) dX0_meets_8 rfl rfl ?_
  refine v_ci (pc := 9) (v_rPU (c_X2_meets_s G l hL hp3 (by decide) t3 (by (try simp only [List.length_append, List.length_cons, List.length_nil]); omega)) rfl kPU_X0_29 hp3.2.1 rfl (by decide) ⟨Nat.le_of_ble_eq_true rfl, Nat.le_of_ble_eq_true rfl⟩ ⟨Nat.le_of_ble_eq_true rfl, Nat.le_of_ble_eq_true rfl⟩ dX0_meets_9 (Nat.le_of_ble_eq_true rfl)) (fun x9 M9 h9 => ?_)
  obtain ⟨rfl, I9, rfl, t9, n9⟩ := h9
  have m9 := kR_tr m3 n9
  have hp9 := PS_k hp m9
  refine v_ineg (pc := 12) dX0_meets_12 ?_
  exact v_iret (pc := 13) dX0_meets_13 rfl rfl (Nat.le_of_ble_eq_true rfl) (Nat.le_of_ble_eq_true rfl) ⟨rfl, _, rfl, by have e := t9; rw [List.append_assoc] at e; exact e, m9⟩
abbrev rm_X6_meets : Room := { frames := 5, cells := 0, slots := 0, locals := 200 }
set_option maxRecDepth 20000 in
theorem c_X6_meets (G : v_G) (l : Launch) {K : Nat × v_TY} {I : Nat → Nat → Int32} {J : Nat → Nat → Int64} {R : Nat → Nat → Option Nat} (hL : Lay K R) {a i w : Nat} {z : Int32} {tl : List Nat} (hp : PS K I a (p_ci 6) i 6 w) (h : CTr I tl) (hl : tl.length ≤ 18) : v_M G l yX6_meets cX6_meets 3 (some .int) rm_X6_meets [.ref a, .int z, .ref 39] (K, I, J, R) (v_Qi G (fun (x : Int32) (M' : v_MM) => x = (a_m 6 w i z).1 ∧ ∃ I', M' = (K, I', J, R) ∧ CTr I' (tl ++ (a_m 6 w i z).2) ∧ kR I I')) := by
  refine v_of [some (.ref a), some (.int z), some (.ref 39)] (by decide) (Nat.le_of_ble_eq_true rfl) (Nat.le_of_ble_eq_true rfl) rfl ?_
  refine v_aload_n (pc := 0) dX6_meets_0 rfl rfl ?_
  refine v_bipush (pc := 1) (v := nI 71) dX6_meets_1 (by decide) ?_
  refine v_cv (pc := 3) (v_rV (c_X8_begin G l hL h (by omega)) rfl kV_X6_19 (v_rcO (li_39 hL) rfl (by decide)) ⟨Nat.le_of_ble_eq_true rfl, Nat.le_of_ble_eq_true rfl⟩ ⟨Nat.le_of_ble_eq_true rfl, Nat.le_of_ble_eq_true rfl⟩ dX6_meets_3 (Nat.le_of_ble_eq_true rfl)) (fun M3 h3 => ?_)
  obtain ⟨I3, rfl, t3, m3⟩ := h3
  have hp3 := PS_k hp m3
  refine v_aload_n (pc := 6) dX6_meets_6 rfl rfl ?_
  refine v_iload_n (pc := 7) dX6_meets_7 rfl rfl ?_
  refine v_aload_n (pc := 8) dX6_meets_8 rfl rfl ?_
  refine v_ci (pc := 9) (v_rPU (c_X2_meets_s G l hL hp3 (by decide) t3 (by (try simp only [List.length_append, List.length_cons, List.length_nil]); omega)) rfl kPU_X6_29 hp3.2.1 rfl (by decide) ⟨Nat.le_of_ble_eq_true rfl, Nat.le_of_ble_eq_true rfl⟩ ⟨Nat.le_of_ble_eq_true rfl, Nat.le_of_ble_eq_true rfl⟩ dX6_meets_9 (Nat.le_of_ble_eq_true rfl)) (fun x9 M9 h9 => ?_)
  obtain ⟨rfl, I9, rfl, t9, n9⟩ := h9
  have m9 := kR_tr m3 n9
  have hp9 := PS_k hp m9
  refine v_aload_n (pc := 12) dX6_meets_12 rfl rfl ?_
  refine v_getV (pc := 13) fg_X6_32_6 dX6_meets_13 hp9.2.1 hp9.2.2.2.2 ?_
  refine v_ixor (pc := 16) dX6_meets_16 ?_
  exact v_iret (pc := 17) dX6_meets_17 rfl rfl (Nat.le_of_ble_eq_true rfl) (Nat.le_of_ble_eq_true rfl) ⟨rfl, _, rfl, by have e := t9; rw [List.append_assoc] at e; exact e, m9⟩
abbrev rm_X2_counts_s : Room := { frames := 7, cells := 0, slots := 0, locals := 300 }
set_option maxRecDepth 20000 in
theorem c_X2_counts_s (G : v_G) (l : Launch) {K : Nat × v_TY} {I : Nat → Nat → Int32} {J : Nat → Nat → Int64} {R : Nat → Nat → Option Nat} (hL : Lay K R) {a i k w : Nat} {z : Int32} {tl : List Nat} (hp : PS K I a (p_ci k) i k w) (hk : k ≤ 6) (h : CTr I tl) (hl : tl.length ≤ 17) : v_M G l yX2_counts cX2_counts 3 (some .int) rm_X2_counts_s [.ref a, .int z, .ref 39] (K, I, J, R) (v_Qi G (fun (x : Int32) (M' : v_MM) => x = (a_pc k w i z).1 ∧ ∃ I', M' = (K, I', J, R) ∧ CTr I' (tl ++ (a_pc k w i z).2) ∧ kR I I')) := by
  refine v_of [some (.ref a), some (.int z), some (.ref 39)] (by decide) (Nat.le_of_ble_eq_true rfl) (Nat.le_of_ble_eq_true rfl) rfl ?_
  refine v_aload_n (pc := 0) dX2_counts_0 rfl rfl ?_
  refine v_bipush (pc := 1) (v := nI 11) dX2_counts_1 (by decide) ?_
  refine v_cv (pc := 3) (v_rV (c_X8_begin G l hL h (by omega)) rfl kV_X2_19 (v_rcO (li_39 hL) rfl (by decide)) ⟨Nat.le_of_ble_eq_true rfl, Nat.le_of_ble_eq_true rfl⟩ ⟨Nat.le_of_ble_eq_true rfl, Nat.le_of_ble_eq_true rfl⟩ dX2_counts_3 (Nat.le_of_ble_eq_true rfl)) (fun M3 h3 => ?_)
  obtain ⟨I3, rfl, t3, m3⟩ := h3
  have hp3 := PS_k hp m3
  refine v_aload_n (pc := 6) dX2_counts_6 rfl rfl ?_
  refine v_iload_n (pc := 7) dX2_counts_7 rfl rfl ?_
  refine v_aload_n (pc := 8) dX2_counts_8 rfl rfl ?_
  refine v_ci (Z' := rm_X2_meets) (rest := []) (Post := fun (x : Int32) (M' : v_MM) => x = (a_m k w i z).1 ∧ ∃ I', M' = (K, I', J, R) ∧ CTr I' ((tl ++ [11]) ++ (a_m k w i z).2) ∧ kR I3 I') ?_ (fun x9 M9 h9 => ?_)
  · rcases (show k = 0 ∨ k = 1 ∨ k = 2 ∨ k = 3 ∨ k = 4 ∨ k = 5 ∨ k = 6 by omega) with rfl | rfl | rfl | rfl | rfl | rfl | rfl
    · exact v_rU (c_X2_meets G l hL hp3 (by decide) t3 (by (try simp only [List.length_append, List.length_cons, List.length_nil]); omega)) rfl kU_X2_25_2 (v_rcO hp3.2.1 rfl (by decide)) ⟨Nat.le_of_ble_eq_true rfl, Nat.le_of_ble_eq_true rfl⟩ ⟨Nat.le_of_ble_eq_true rfl, Nat.le_of_ble_eq_true rfl⟩ dX2_counts_9 (Nat.le_of_ble_eq_true rfl)
    · exact v_rU (c_X2_meets G l hL hp3 (by decide) t3 (by (try simp only [List.length_append, List.length_cons, List.length_nil]); omega)) rfl kU_X2_25_10 (v_rcO hp3.2.1 rfl (by decide)) ⟨Nat.le_of_ble_eq_true rfl, Nat.le_of_ble_eq_true rfl⟩ ⟨Nat.le_of_ble_eq_true rfl, Nat.le_of_ble_eq_true rfl⟩ dX2_counts_9 (Nat.le_of_ble_eq_true rfl)
    · exact v_rU (c_X3_meets_2 G l hL hp3 t3 (by (try simp only [List.length_append, List.length_cons, List.length_nil]); omega)) rfl kU_X2_25_3 (v_rcO hp3.2.1 rfl (by decide)) ⟨Nat.le_of_ble_eq_true rfl, Nat.le_of_ble_eq_true rfl⟩ ⟨Nat.le_of_ble_eq_true rfl, Nat.le_of_ble_eq_true rfl⟩ dX2_counts_9 (Nat.le_of_ble_eq_true rfl)
    · exact v_rU (c_X2_meets G l hL hp3 (by decide) t3 (by (try simp only [List.length_append, List.length_cons, List.length_nil]); omega)) rfl kU_X2_25_1 (v_rcO hp3.2.1 rfl (by decide)) ⟨Nat.le_of_ble_eq_true rfl, Nat.le_of_ble_eq_true rfl⟩ ⟨Nat.le_of_ble_eq_true rfl, Nat.le_of_ble_eq_true rfl⟩ dX2_counts_9 (Nat.le_of_ble_eq_true rfl)
    · exact v_rU (c_X0_meets G l hL hp3 t3 (by (try simp only [List.length_append, List.length_cons, List.length_nil]); omega)) rfl kU_X2_25_0 (v_rcO hp3.2.1 rfl (by decide)) ⟨Nat.le_of_ble_eq_true rfl, Nat.le_of_ble_eq_true rfl⟩ ⟨Nat.le_of_ble_eq_true rfl, Nat.le_of_ble_eq_true rfl⟩ dX2_counts_9 (Nat.le_of_ble_eq_true rfl)
    · exact v_rU (c_X3_meets_5 G l hL hp3 t3 (by (try simp only [List.length_append, List.length_cons, List.length_nil]); omega)) rfl kU_X2_25_4 (v_rcO hp3.2.1 rfl (by decide)) ⟨Nat.le_of_ble_eq_true rfl, Nat.le_of_ble_eq_true rfl⟩ ⟨Nat.le_of_ble_eq_true rfl, Nat.le_of_ble_eq_true rfl⟩ dX2_counts_9 (Nat.le_of_ble_eq_true rfl)
    · exact v_rU (c_X6_meets G l hL hp3 t3 (by (try simp only [List.length_append, List.length_cons, List.length_nil]); omega)) rfl kU_X2_25_6 (v_rcO hp3.2.1 rfl (by decide)) ⟨Nat.le_of_ble_eq_true rfl, Nat.le_of_ble_eq_true rfl⟩ ⟨Nat.le_of_ble_eq_true rfl, Nat.le_of_ble_eq_true rfl⟩ dX2_counts_9 (Nat.le_of_ble_eq_true rfl)
  obtain ⟨rfl, I9, rfl, t9, n9⟩ := h9
  have m9 := kR_tr m3 n9
  have hp9 := PS_k hp m9
  refine v_aload_n (pc := 12) dX2_counts_12 rfl rfl ?_
  refine v_getV (pc := 13) (fg2_16 k) dX2_counts_13 hp9.2.1 hp9.2.2.2.2 ?_
  refine v_isub (pc := 16) dX2_counts_16 ?_
  exact v_iret (pc := 17) dX2_counts_17 rfl rfl (Nat.le_of_ble_eq_true rfl) (Nat.le_of_ble_eq_true rfl) ⟨rfl, _, rfl, by have e := t9; rw [List.append_assoc] at e; exact e, m9⟩
abbrev rm_X2_counts : Room := { frames := 11, cells := 0, slots := 0, locals := 500 }
set_option maxRecDepth 20000 in
theorem c_X2_counts (G : v_G) (l : Launch) {K : Nat × v_TY} {I : Nat → Nat → Int32} {J : Nat → Nat → Int64} {R : Nat → Nat → Option Nat} (hL : Lay K R) {a i k w : Nat} {z : Int32} {tl : List Nat} (hp : PS K I a (p_ci k) i k w) (hk : k ≤ 6) (h : CTr I tl) (hl : tl.length ≤ 17) : v_M G l yX2_counts cX2_counts 3 (some .int) rm_X2_counts [.ref a, .int z, .ref 39] (K, I, J, R) (v_Qi G (fun (x : Int32) (M' : v_MM) => x = (a_pc k w i z).1 ∧ ∃ I', M' = (K, I', J, R) ∧ CTr I' (tl ++ (a_pc k w i z).2) ∧ kR I I')) := by
  refine v_of [some (.ref a), some (.int z), some (.ref 39)] (by decide) (Nat.le_of_ble_eq_true rfl) (Nat.le_of_ble_eq_true rfl) rfl ?_
  refine v_aload_n (pc := 0) dX2_counts_0 rfl rfl ?_
  refine v_bipush (pc := 1) (v := nI 11) dX2_counts_1 (by decide) ?_
  refine v_cv (pc := 3) (v_rV (c_X8_begin G l hL h (by omega)) rfl kV_X2_19 (v_rcO (li_39 hL) rfl (by decide)) ⟨Nat.le_of_ble_eq_true rfl, Nat.le_of_ble_eq_true rfl⟩ ⟨Nat.le_of_ble_eq_true rfl, Nat.le_of_ble_eq_true rfl⟩ dX2_counts_3 (Nat.le_of_ble_eq_true rfl)) (fun M3 h3 => ?_)
  obtain ⟨I3, rfl, t3, m3⟩ := h3
  have hp3 := PS_k hp m3
  refine v_aload_n (pc := 6) dX2_counts_6 rfl rfl ?_
  refine v_iload_n (pc := 7) dX2_counts_7 rfl rfl ?_
  refine v_aload_n (pc := 8) dX2_counts_8 rfl rfl ?_
  refine v_ci (Z' := rm_X2_meets) (rest := []) (Post := fun (x : Int32) (M' : v_MM) => x = (a_m k w i z).1 ∧ ∃ I', M' = (K, I', J, R) ∧ CTr I' ((tl ++ [11]) ++ (a_m k w i z).2) ∧ kR I3 I') ?_ (fun x9 M9 h9 => ?_)
  · rcases (show k = 0 ∨ k = 1 ∨ k = 2 ∨ k = 3 ∨ k = 4 ∨ k = 5 ∨ k = 6 by omega) with rfl | rfl | rfl | rfl | rfl | rfl | rfl
    · exact v_rU (c_X2_meets G l hL hp3 (by decide) t3 (by (try simp only [List.length_append, List.length_cons, List.length_nil]); omega)) rfl kU_X2_25_2 (v_rcO hp3.2.1 rfl (by decide)) ⟨Nat.le_of_ble_eq_true rfl, Nat.le_of_ble_eq_true rfl⟩ ⟨Nat.le_of_ble_eq_true rfl, Nat.le_of_ble_eq_true rfl⟩ dX2_counts_9 (Nat.le_of_ble_eq_true rfl)
    · exact v_rU (c_X2_meets G l hL hp3 (by decide) t3 (by (try simp only [List.length_append, List.length_cons, List.length_nil]); omega)) rfl kU_X2_25_10 (v_rcO hp3.2.1 rfl (by decide)) ⟨Nat.le_of_ble_eq_true rfl, Nat.le_of_ble_eq_true rfl⟩ ⟨Nat.le_of_ble_eq_true rfl, Nat.le_of_ble_eq_true rfl⟩ dX2_counts_9 (Nat.le_of_ble_eq_true rfl)
    · exact v_rU (c_X3_meets_2 G l hL hp3 t3 (by (try simp only [List.length_append, List.length_cons, List.length_nil]); omega)) rfl kU_X2_25_3 (v_rcO hp3.2.1 rfl (by decide)) ⟨Nat.le_of_ble_eq_true rfl, Nat.le_of_ble_eq_true rfl⟩ ⟨Nat.le_of_ble_eq_true rfl, Nat.le_of_ble_eq_true rfl⟩ dX2_counts_9 (Nat.le_of_ble_eq_true rfl)
    · exact v_rU (c_X2_meets G l hL hp3 (by decide) t3 (by (try simp only [List.length_append, List.length_cons, List.length_nil]); omega)) rfl kU_X2_25_1 (v_rcO hp3.2.1 rfl (by decide)) ⟨Nat.le_of_ble_eq_true rfl, Nat.le_of_ble_eq_true rfl⟩ ⟨Nat.le_of_ble_eq_true rfl, Nat.le_of_ble_eq_true rfl⟩ dX2_counts_9 (Nat.le_of_ble_eq_true rfl)
    · exact v_rU (c_X0_meets G l hL hp3 t3 (by (try simp only [List.length_append, List.length_cons, List.length_nil]); omega)) rfl kU_X2_25_0 (v_rcO hp3.2.1 rfl (by decide)) ⟨Nat.le_of_ble_eq_true rfl, Nat.le_of_ble_eq_true rfl⟩ ⟨Nat.le_of_ble_eq_true rfl, Nat.le_of_ble_eq_true rfl⟩ dX2_counts_9 (Nat.le_of_ble_eq_true rfl)
    · exact v_rU (c_X3_meets_5 G l hL hp3 t3 (by (try simp only [List.length_append, List.length_cons, List.length_nil]); omega)) rfl kU_X2_25_4 (v_rcO hp3.2.1 rfl (by decide)) ⟨Nat.le_of_ble_eq_true rfl, Nat.le_of_ble_eq_true rfl⟩ ⟨Nat.le_of_ble_eq_true rfl, Nat.le_of_ble_eq_true rfl⟩ dX2_counts_9 (Nat.le_of_ble_eq_true rfl)
    · exact v_rU (c_X6_meets G l hL hp3 t3 (by (try simp only [List.length_append, List.length_cons, List.length_nil]); omega)) rfl kU_X2_25_6 (v_rcO hp3.2.1 rfl (by decide)) ⟨Nat.le_of_ble_eq_true rfl, Nat.le_of_ble_eq_true rfl⟩ ⟨Nat.le_of_ble_eq_true rfl, Nat.le_of_ble_eq_true rfl⟩ dX2_counts_9 (Nat.le_of_ble_eq_true rfl)
  obtain ⟨rfl, I9, rfl, t9, n9⟩ := h9
  have m9 := kR_tr m3 n9
  have hp9 := PS_k hp m9
  refine v_aload_n (pc := 12) dX2_counts_12 rfl rfl ?_
  refine v_getV (pc := 13) (fg2_16 k) dX2_counts_13 hp9.2.1 hp9.2.2.2.2 ?_
  refine v_isub (pc := 16) dX2_counts_16 ?_
  exact v_iret (pc := 17) dX2_counts_17 rfl rfl (Nat.le_of_ble_eq_true rfl) (Nat.le_of_ble_eq_true rfl) ⟨rfl, _, rfl, by have e := t9; rw [List.append_assoc] at e; exact e, m9⟩
abbrev rm_X10_counts_1 : Room := { frames := 11, cells := 0, slots := 0, locals := 500 }
set_option maxRecDepth 20000 in
theorem c_X10_counts_1 (G : v_G) (l : Launch) {K : Nat × v_TY} {I : Nat → Nat → Int32} {J : Nat → Nat → Int64} {R : Nat → Nat → Option Nat} (hL : Lay K R) {a i w : Nat} {z : Int32} {tl : List Nat} (hp : PS K I a (p_ci 1) i 1 w) (h : CTr I tl) (hl : tl.length ≤ 16) : v_M G l yX10_counts cX10_counts 3 (some .int) rm_X10_counts_1 [.ref a, .int z, .ref 39] (K, I, J, R) (v_Qi G (fun (x : Int32) (M' : v_MM) => x = (a_wc 1 w i z).1 ∧ ∃ I', M' = (K, I', J, R) ∧ CTr I' (tl ++ (a_wc 1 w i z).2) ∧ kR I I')) := by
  refine v_of [some (.ref a), some (.int z), some (.ref 39)] (by decide) (Nat.le_of_ble_eq_true rfl) (Nat.le_of_ble_eq_true rfl) rfl ?_
  refine v_aload_n (pc := 0) dX10_counts_0 rfl rfl ?_
  refine v_bipush (pc := 1) (v := nI 20) dX10_counts_1 (by decide) ?_
  refine v_cv (pc := 3) (v_rV (c_X8_begin G l hL h (by omega)) rfl kV_X10_13 (v_rcO (li_39 hL) rfl (by decide)) ⟨Nat.le_of_ble_eq_true rfl, Nat.le_of_ble_eq_true rfl⟩ ⟨Nat.le_of_ble_eq_true rfl, Nat.le_of_ble_eq_true rfl⟩ dX10_counts_3 (Nat.le_of_ble_eq_true rfl)) (fun M3 h3 => ?_)
  obtain ⟨I3, rfl, t3, m3⟩ := h3
  have hp3 := PS_k hp m3
  refine v_aload_n (pc := 6) dX10_counts_6 rfl rfl ?_
  refine v_iload_n (pc := 7) dX10_counts_7 rfl rfl ?_
  refine v_aload_n (pc := 8) dX10_counts_8 rfl rfl ?_
  refine v_ci (pc := 9) (v_rP (c_X2_counts_s G l hL hp3 (by decide) t3 (by (try simp only [List.length_append, List.length_cons, List.length_nil]); omega)) rfl kP_X10_19 hp3.2.1 rfl (by decide) ⟨Nat.le_of_ble_eq_true rfl, Nat.le_of_ble_eq_true rfl⟩ ⟨Nat.le_of_ble_eq_true rfl, Nat.le_of_ble_eq_true rfl⟩ dX10_counts_9 (Nat.le_of_ble_eq_true rfl)) (fun x9 M9 h9 => ?_)
  obtain ⟨rfl, I9, rfl, t9, n9⟩ := h9
  have m9 := kR_tr m3 n9
  have hp9 := PS_k hp m9
  refine v_bipush (pc := 12) (v := nI 6) dX10_counts_12 (by decide) ?_
  refine v_ixor (pc := 14) dX10_counts_14 ?_
  exact v_iret (pc := 15) dX10_counts_15 rfl rfl (Nat.le_of_ble_eq_true rfl) (Nat.le_of_ble_eq_true rfl) ⟨rfl, _, rfl, by have e := t9; rw [List.append_assoc] at e; exact e, m9⟩
abbrev rm_X10_counts_4 : Room := { frames := 9, cells := 0, slots := 0, locals := 400 }
set_option maxRecDepth 20000 in
theorem c_X10_counts_4 (G : v_G) (l : Launch) {K : Nat × v_TY} {I : Nat → Nat → Int32} {J : Nat → Nat → Int64} {R : Nat → Nat → Option Nat} (hL : Lay K R) {a i w : Nat} {z : Int32} {tl : List Nat} (hp : PS K I a (p_ci 4) i 4 w) (h : CTr I tl) (hl : tl.length ≤ 16) : v_M G l yX10_counts cX10_counts 3 (some .int) rm_X10_counts_4 [.ref a, .int z, .ref 39] (K, I, J, R) (v_Qi G (fun (x : Int32) (M' : v_MM) => x = (a_wc 4 w i z).1 ∧ ∃ I', M' = (K, I', J, R) ∧ CTr I' (tl ++ (a_wc 4 w i z).2) ∧ kR I I')) := by
  refine v_of [some (.ref a), some (.int z), some (.ref 39)] (by decide) (Nat.le_of_ble_eq_true rfl) (Nat.le_of_ble_eq_true rfl) rfl ?_
  refine v_aload_n (pc := 0) dX10_counts_0 rfl rfl ?_
  refine v_bipush (pc := 1) (v := nI 20) dX10_counts_1 (by decide) ?_
  refine v_cv (pc := 3) (v_rV (c_X8_begin G l hL h (by omega)) rfl kV_X10_13 (v_rcO (li_39 hL) rfl (by decide)) ⟨Nat.le_of_ble_eq_true rfl, Nat.le_of_ble_eq_true rfl⟩ ⟨Nat.le_of_ble_eq_true rfl, Nat.le_of_ble_eq_true rfl⟩ dX10_counts_3 (Nat.le_of_ble_eq_true rfl)) (fun M3 h3 => ?_)
  obtain ⟨I3, rfl, t3, m3⟩ := h3
  have hp3 := PS_k hp m3
  refine v_aload_n (pc := 6) dX10_counts_6 rfl rfl ?_
  refine v_iload_n (pc := 7) dX10_counts_7 rfl rfl ?_
  refine v_aload_n (pc := 8) dX10_counts_8 rfl rfl ?_
  refine v_ci (pc := 9) (v_rP (c_X2_counts_s G l hL hp3 (by decide) t3 (by (try simp only [List.length_append, List.length_cons, List.length_nil]); omega)) rfl kP_X10_19 hp3.2.1 rfl (by decide) ⟨Nat.le_of_ble_eq_true rfl, Nat.le_of_ble_eq_true rfl⟩ ⟨Nat.le_of_ble_eq_true rfl, Nat.le_of_ble_eq_true rfl⟩ dX10_counts_9 (Nat.le_of_ble_eq_true rfl)) (fun x9 M9 h9 => ?_)
  obtain ⟨rfl, I9, rfl, t9, n9⟩ := h9
  have m9 := kR_tr m3 n9
  have hp9 := PS_k hp m9
  refine v_bipush (pc := 12) (v := nI 6) dX10_counts_12 (by decide) ?_
  refine v_ixor (pc := 14) dX10_counts_14 ?_
  exact v_iret (pc := 15) dX10_counts_15 rfl rfl (Nat.le_of_ble_eq_true rfl) (Nat.le_of_ble_eq_true rfl) ⟨rfl, _, rfl, by have e := t9; rw [List.append_assoc] at e; exact e, m9⟩
abbrev rm_X0_counts : Room := { frames := 11, cells := 0, slots := 0, locals := 500 }
set_option maxRecDepth 20000 in
theorem c_X0_counts (G : v_G) (l : Launch) {K : Nat × v_TY} {I : Nat → Nat → Int32} {J : Nat → Nat → Int64} {R : Nat → Nat → Option Nat} (hL : Lay K R) {a i w : Nat} {z : Int32} {tl : List Nat} (hp : PS K I a (p_ci 4) i 4 w) (h : CTr I tl) (hl : tl.length ≤ 15) : v_M G l yX0_counts cX0_counts 3 (some .int) rm_X0_counts [.ref a, .int z, .ref 39] (K, I, J, R) (v_Qi G (fun (x : Int32) (M' : v_MM) => x = (a_c 4 w i z).1 ∧ ∃ I', M' = (K, I', J, R) ∧ CTr I' (tl ++ (a_c 4 w i z).2) ∧ kR I I')) := by
  refine v_of [some (.ref a), some (.int z), some (.ref 39)] (by decide) (Nat.le_of_ble_eq_true rfl) (Nat.le_of_ble_eq_true rfl) rfl ?_
  refine v_aload_n (pc := 0) dX0_counts_0 rfl rfl ?_
  refine v_bipush (pc := 1) (v := nI 51) dX0_counts_1 (by decide) ?_
  refine v_cv (pc := 3) (v_rV (c_X8_begin G l hL h (by omega)) rfl kV_X0_23 (v_rcO (li_39 hL) rfl (by decide)) ⟨Nat.le_of_ble_eq_true rfl, Nat.le_of_ble_eq_true rfl⟩ ⟨Nat.le_of_ble_eq_true rfl, Nat.le_of_ble_eq_true rfl⟩ dX0_counts_3 (Nat.le_of_ble_eq_true rfl)) (fun M3 h3 => ?_)
  obtain ⟨I3, rfl, t3, m3⟩ := h3
  have hp3 := PS_k hp m3
  refine v_aload_n (pc := 6) dX0_counts_6 rfl rfl ?_
  refine v_iload_n (pc := 7) dX0_counts_7 rfl rfl ?_
  refine v_iconst (pc := 8) (v := nI 1) dX0_counts_8 (by decide) ?_
  refine v_iadd (pc := 9) dX0_counts_9 ?_
  refine v_aload_n (pc := 10) dX0_counts_10 rfl rfl ?_
  refine v_ci (pc := 11) (v_rP (c_X10_counts_4 G l hL hp3 t3 (by (try simp only [List.length_append, List.length_cons, List.length_nil]); omega)) rfl kP_X0_33 hp3.2.1 rfl (by decide) ⟨Nat.le_of_ble_eq_true rfl, Nat.le_of_ble_eq_true rfl⟩ ⟨Nat.le_of_ble_eq_true rfl, Nat.le_of_ble_eq_true rfl⟩ dX0_counts_11 (Nat.le_of_ble_eq_true rfl)) (fun x11 M11 h11 => ?_)
  obtain ⟨rfl, I11, rfl, t11, n11⟩ := h11
  have m11 := kR_tr m3 n11
  have hp11 := PS_k hp m11
  exact v_iret (pc := 14) dX0_counts_14 rfl rfl (Nat.le_of_ble_eq_true rfl) (Nat.le_of_ble_eq_true rfl) ⟨rfl, _, rfl, by have e := t11; rw [List.append_assoc] at e; exact e, m11⟩
abbrev rm_X6_counts : Room := { frames := 11, cells := 0, slots := 0, locals := 500 }
set_option maxRecDepth 20000 in
theorem c_X6_counts (G : v_G) (l : Launch) {K : Nat × v_TY} {I : Nat → Nat → Int32} {J : Nat → Nat → Int64} {R : Nat → Nat → Option Nat} (hL : Lay K R) {a i w : Nat} {z : Int32} {tl : List Nat} (hp : PS K I a (p_ci 6) i 6 w) (h : CTr I tl) (hl : tl.length ≤ 15) : v_M G l yX6_counts cX6_counts 3 (some .int) rm_X6_counts [.ref a, .int z, .ref 39] (K, I, J, R) (v_Qi G (fun (x : Int32) (M' : v_MM) => x = (a_c 6 w i z).1 ∧ ∃ I', M' = (K, I', J, R) ∧ CTr I' (tl ++ (a_c 6 w i z).2) ∧ kR I I')) := by
  refine v_of [some (.ref a), some (.int z), some (.ref 39)] (by decide) (Nat.le_of_ble_eq_true rfl) (Nat.le_of_ble_eq_true rfl) rfl ?_
  refine v_aload_n (pc := 0) dX6_counts_0 rfl rfl ?_
  refine v_bipush (pc := 1) (v := nI 70) dX6_counts_1 (by decide) ?_
  refine v_cv (pc := 3) (v_rV (c_X8_begin G l hL h (by omega)) rfl kV_X6_19 (v_rcO (li_39 hL) rfl (by decide)) ⟨Nat.le_of_ble_eq_true rfl, Nat.le_of_ble_eq_true rfl⟩ ⟨Nat.le_of_ble_eq_true rfl, Nat.le_of_ble_eq_true rfl⟩ dX6_counts_3 (Nat.le_of_ble_eq_true rfl)) (fun M3 h3 => ?_)
  obtain ⟨I3, rfl, t3, m3⟩ := h3
  have hp3 := PS_k hp m3
  refine v_aload_n (pc := 6) dX6_counts_6 rfl rfl ?_
  refine v_iload_n (pc := 7) dX6_counts_7 rfl rfl ?_
  refine v_aload_n (pc := 8) dX6_counts_8 rfl rfl ?_
  refine v_ci (pc := 9) (v_rPU (c_X2_counts_s G l hL hp3 (by decide) t3 (by (try simp only [List.length_append, List.length_cons, List.length_nil]); omega)) rfl kPU_X6_25 hp3.2.1 rfl (by decide) ⟨Nat.le_of_ble_eq_true rfl, Nat.le_of_ble_eq_true rfl⟩ ⟨Nat.le_of_ble_eq_true rfl, Nat.le_of_ble_eq_true rfl⟩ dX6_counts_9 (Nat.le_of_ble_eq_true rfl)) (fun x9 M9 h9 => ?_)
  obtain ⟨rfl, I9, rfl, t9, n9⟩ := h9
  have m9 := kR_tr m3 n9
  have hp9 := PS_k hp m9
  have hpl := a_pc_l 6 w i z
  refine v_aload_n (pc := 12) dX6_counts_12 rfl rfl ?_
  refine v_iconst (pc := 13) (v := nI 2) dX6_counts_13 (by decide) ?_
  refine v_aload_n (pc := 14) dX6_counts_14 rfl rfl ?_
  refine v_ci (pc := 15) (v_rPU (c_X2_meets_s G l hL hp9 (by decide) t9 (by (try simp only [List.length_append, List.length_cons, List.length_nil]); omega)) rfl kPU_X6_29 hp9.2.1 rfl (by decide) ⟨Nat.le_of_ble_eq_true rfl, Nat.le_of_ble_eq_true rfl⟩ ⟨Nat.le_of_ble_eq_true rfl, Nat.le_of_ble_eq_true rfl⟩ dX6_counts_15 (Nat.le_of_ble_eq_true rfl)) (fun x15 M15 h15 => ?_)
  obtain ⟨rfl, I15, rfl, t15, n15⟩ := h15
  have m15 := kR_tr m9 n15
  have hp15 := PS_k hp m15
  refine v_iadd (pc := 18) dX6_counts_18 ?_
  exact v_iret (pc := 19) dX6_counts_19 rfl rfl (Nat.le_of_ble_eq_true rfl) (Nat.le_of_ble_eq_true rfl) ⟨rfl, _, rfl, by have e := t15; rw [List.append_assoc, List.append_assoc] at e; exact e, m15⟩
