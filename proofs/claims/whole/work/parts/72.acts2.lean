/-! THE CLASS: tells, act -/
abbrev rm_X2_tells_s : Room := { frames := 13, cells := 0, slots := 0, locals := 700 }
set_option maxRecDepth 20000 in
theorem c_X2_tells_s (G : v_G) (l : Launch) {K : Nat × v_TY} {I : Nat → Nat → Int32} {J : Nat → Nat → Int64} {R : Nat → Nat → Option Nat} (hL : Lay K R) {a i k w : Nat} {z : Int32} {tl : List Nat} (hp : PS K I a (p_ci k) i k w) (hk : k ≤ 6) (h : CTr I tl) (hl : tl.length ≤ 14) : v_M G l yX2_tells cX2_tells 3 (some .int) rm_X2_tells_s [.ref a, .int z, .ref 39] (K, I, J, R) (v_Qi G (fun (x : Int32) (M' : v_MM) => x = (a_pt k w i z).1 ∧ ∃ I', M' = (K, I', J, R) ∧ CTr I' (tl ++ (a_pt k w i z).2) ∧ kR I I')) := by
  refine v_of [some (.ref a), some (.int z), some (.ref 39)] (by decide) (Nat.le_of_ble_eq_true rfl) (Nat.le_of_ble_eq_true rfl) rfl ?_
  refine v_aload_n (pc := 0) dX2_tells_0 rfl rfl ?_
  refine v_bipush (pc := 1) (v := nI 12) dX2_tells_1 (by decide) ?_
  refine v_cv (pc := 3) (v_rV (c_X8_begin G l hL h (by omega)) rfl kV_X2_19 (v_rcO (li_39 hL) rfl (by decide)) ⟨Nat.le_of_ble_eq_true rfl, Nat.le_of_ble_eq_true rfl⟩ ⟨Nat.le_of_ble_eq_true rfl, Nat.le_of_ble_eq_true rfl⟩ dX2_tells_3 (Nat.le_of_ble_eq_true rfl)) (fun M3 h3 => ?_)
  obtain ⟨I3, rfl, t3, m3⟩ := h3
  have hp3 := PS_k hp m3
  refine v_aload_n (pc := 6) dX2_tells_6 rfl rfl ?_
  refine v_iload_n (pc := 7) dX2_tells_7 rfl rfl ?_
  refine v_aload_n (pc := 8) dX2_tells_8 rfl rfl ?_
  refine v_ci (Z' := rm_X2_counts) (rest := []) (Post := fun (x : Int32) (M' : v_MM) => x = (a_c k w i z).1 ∧ ∃ I', M' = (K, I', J, R) ∧ CTr I' ((tl ++ [12]) ++ (a_c k w i z).2) ∧ kR I3 I') ?_ (fun x9 M9 h9 => ?_)
  · rcases (show k = 0 ∨ k = 1 ∨ k = 2 ∨ k = 3 ∨ k = 4 ∨ k = 5 ∨ k = 6 by omega) with rfl | rfl | rfl | rfl | rfl | rfl | rfl
    · exact v_rU (c_X2_counts G l hL hp3 (by decide) t3 (by (try simp only [List.length_append, List.length_cons, List.length_nil]); omega)) rfl kU_X2_29_2 (v_rcO hp3.2.1 rfl (by decide)) ⟨Nat.le_of_ble_eq_true rfl, Nat.le_of_ble_eq_true rfl⟩ ⟨Nat.le_of_ble_eq_true rfl, Nat.le_of_ble_eq_true rfl⟩ dX2_tells_9 (Nat.le_of_ble_eq_true rfl)
    · exact v_rU (c_X10_counts_1 G l hL hp3 t3 (by (try simp only [List.length_append, List.length_cons, List.length_nil]); omega)) rfl kU_X2_29_10 (v_rcO hp3.2.1 rfl (by decide)) ⟨Nat.le_of_ble_eq_true rfl, Nat.le_of_ble_eq_true rfl⟩ ⟨Nat.le_of_ble_eq_true rfl, Nat.le_of_ble_eq_true rfl⟩ dX2_tells_9 (Nat.le_of_ble_eq_true rfl)
    · exact v_rU (c_X2_counts G l hL hp3 (by decide) t3 (by (try simp only [List.length_append, List.length_cons, List.length_nil]); omega)) rfl kU_X2_29_3 (v_rcO hp3.2.1 rfl (by decide)) ⟨Nat.le_of_ble_eq_true rfl, Nat.le_of_ble_eq_true rfl⟩ ⟨Nat.le_of_ble_eq_true rfl, Nat.le_of_ble_eq_true rfl⟩ dX2_tells_9 (Nat.le_of_ble_eq_true rfl)
    · exact v_rU (c_X2_counts G l hL hp3 (by decide) t3 (by (try simp only [List.length_append, List.length_cons, List.length_nil]); omega)) rfl kU_X2_29_1 (v_rcO hp3.2.1 rfl (by decide)) ⟨Nat.le_of_ble_eq_true rfl, Nat.le_of_ble_eq_true rfl⟩ ⟨Nat.le_of_ble_eq_true rfl, Nat.le_of_ble_eq_true rfl⟩ dX2_tells_9 (Nat.le_of_ble_eq_true rfl)
    · exact v_rU (c_X0_counts G l hL hp3 t3 (by (try simp only [List.length_append, List.length_cons, List.length_nil]); omega)) rfl kU_X2_29_0 (v_rcO hp3.2.1 rfl (by decide)) ⟨Nat.le_of_ble_eq_true rfl, Nat.le_of_ble_eq_true rfl⟩ ⟨Nat.le_of_ble_eq_true rfl, Nat.le_of_ble_eq_true rfl⟩ dX2_tells_9 (Nat.le_of_ble_eq_true rfl)
    · exact v_rU (c_X2_counts G l hL hp3 (by decide) t3 (by (try simp only [List.length_append, List.length_cons, List.length_nil]); omega)) rfl kU_X2_29_4 (v_rcO hp3.2.1 rfl (by decide)) ⟨Nat.le_of_ble_eq_true rfl, Nat.le_of_ble_eq_true rfl⟩ ⟨Nat.le_of_ble_eq_true rfl, Nat.le_of_ble_eq_true rfl⟩ dX2_tells_9 (Nat.le_of_ble_eq_true rfl)
    · exact v_rU (c_X6_counts G l hL hp3 t3 (by (try simp only [List.length_append, List.length_cons, List.length_nil]); omega)) rfl kU_X2_29_6 (v_rcO hp3.2.1 rfl (by decide)) ⟨Nat.le_of_ble_eq_true rfl, Nat.le_of_ble_eq_true rfl⟩ ⟨Nat.le_of_ble_eq_true rfl, Nat.le_of_ble_eq_true rfl⟩ dX2_tells_9 (Nat.le_of_ble_eq_true rfl)
  obtain ⟨rfl, I9, rfl, t9, n9⟩ := h9
  have m9 := kR_tr m3 n9
  have hp9 := PS_k hp m9
  refine v_iconst (pc := 12) (v := nI 2) dX2_tells_12 (by decide) ?_
  refine v_imul (pc := 13) dX2_tells_13 ?_
  exact v_iret (pc := 14) dX2_tells_14 rfl rfl (Nat.le_of_ble_eq_true rfl) (Nat.le_of_ble_eq_true rfl) ⟨rfl, _, rfl, by have e := t9; rw [List.append_assoc] at e; exact e, m9⟩
abbrev rm_X2_tells : Room := { frames := 15, cells := 0, slots := 0, locals := 900 }
set_option maxRecDepth 20000 in
theorem c_X2_tells (G : v_G) (l : Launch) {K : Nat × v_TY} {I : Nat → Nat → Int32} {J : Nat → Nat → Int64} {R : Nat → Nat → Option Nat} (hL : Lay K R) {a i k w : Nat} {z : Int32} {tl : List Nat} (hp : PS K I a (p_ci k) i k w) (hk : k ≤ 6) (h : CTr I tl) (hl : tl.length ≤ 14) : v_M G l yX2_tells cX2_tells 3 (some .int) rm_X2_tells [.ref a, .int z, .ref 39] (K, I, J, R) (v_Qi G (fun (x : Int32) (M' : v_MM) => x = (a_pt k w i z).1 ∧ ∃ I', M' = (K, I', J, R) ∧ CTr I' (tl ++ (a_pt k w i z).2) ∧ kR I I')) := by
  refine v_of [some (.ref a), some (.int z), some (.ref 39)] (by decide) (Nat.le_of_ble_eq_true rfl) (Nat.le_of_ble_eq_true rfl) rfl ?_
  refine v_aload_n (pc := 0) dX2_tells_0 rfl rfl ?_
  refine v_bipush (pc := 1) (v := nI 12) dX2_tells_1 (by decide) ?_
  refine v_cv (pc := 3) (v_rV (c_X8_begin G l hL h (by omega)) rfl kV_X2_19 (v_rcO (li_39 hL) rfl (by decide)) ⟨Nat.le_of_ble_eq_true rfl, Nat.le_of_ble_eq_true rfl⟩ ⟨Nat.le_of_ble_eq_true rfl, Nat.le_of_ble_eq_true rfl⟩ dX2_tells_3 (Nat.le_of_ble_eq_true rfl)) (fun M3 h3 => ?_)
  obtain ⟨I3, rfl, t3, m3⟩ := h3
  have hp3 := PS_k hp m3
  refine v_aload_n (pc := 6) dX2_tells_6 rfl rfl ?_
  refine v_iload_n (pc := 7) dX2_tells_7 rfl rfl ?_
  refine v_aload_n (pc := 8) dX2_tells_8 rfl rfl ?_
  refine v_ci (Z' := rm_X2_counts) (rest := []) (Post := fun (x : Int32) (M' : v_MM) => x = (a_c k w i z).1 ∧ ∃ I', M' = (K, I', J, R) ∧ CTr I' ((tl ++ [12]) ++ (a_c k w i z).2) ∧ kR I3 I') ?_ (fun x9 M9 h9 => ?_)
  · rcases (show k = 0 ∨ k = 1 ∨ k = 2 ∨ k = 3 ∨ k = 4 ∨ k = 5 ∨ k = 6 by omega) with rfl | rfl | rfl | rfl | rfl | rfl | rfl
    · exact v_rU (c_X2_counts G l hL hp3 (by decide) t3 (by (try simp only [List.length_append, List.length_cons, List.length_nil]); omega)) rfl kU_X2_29_2 (v_rcO hp3.2.1 rfl (by decide)) ⟨Nat.le_of_ble_eq_true rfl, Nat.le_of_ble_eq_true rfl⟩ ⟨Nat.le_of_ble_eq_true rfl, Nat.le_of_ble_eq_true rfl⟩ dX2_tells_9 (Nat.le_of_ble_eq_true rfl)
    · exact v_rU (c_X10_counts_1 G l hL hp3 t3 (by (try simp only [List.length_append, List.length_cons, List.length_nil]); omega)) rfl kU_X2_29_10 (v_rcO hp3.2.1 rfl (by decide)) ⟨Nat.le_of_ble_eq_true rfl, Nat.le_of_ble_eq_true rfl⟩ ⟨Nat.le_of_ble_eq_true rfl, Nat.le_of_ble_eq_true rfl⟩ dX2_tells_9 (Nat.le_of_ble_eq_true rfl)
    · exact v_rU (c_X2_counts G l hL hp3 (by decide) t3 (by (try simp only [List.length_append, List.length_cons, List.length_nil]); omega)) rfl kU_X2_29_3 (v_rcO hp3.2.1 rfl (by decide)) ⟨Nat.le_of_ble_eq_true rfl, Nat.le_of_ble_eq_true rfl⟩ ⟨Nat.le_of_ble_eq_true rfl, Nat.le_of_ble_eq_true rfl⟩ dX2_tells_9 (Nat.le_of_ble_eq_true rfl)
    · exact v_rU (c_X2_counts G l hL hp3 (by decide) t3 (by (try simp only [List.length_append, List.length_cons, List.length_nil]); omega)) rfl kU_X2_29_1 (v_rcO hp3.2.1 rfl (by decide)) ⟨Nat.le_of_ble_eq_true rfl, Nat.le_of_ble_eq_true rfl⟩ ⟨Nat.le_of_ble_eq_true rfl, Nat.le_of_ble_eq_true rfl⟩ dX2_tells_9 (Nat.le_of_ble_eq_true rfl)
    · exact v_rU (c_X0_counts G l hL hp3 t3 (by (try simp only [List.length_append, List.length_cons, List.length_nil]); omega)) rfl kU_X2_29_0 (v_rcO hp3.2.1 rfl (by decide)) ⟨Nat.le_of_ble_eq_true rfl, Nat.le_of_ble_eq_true rfl⟩ ⟨Nat.le_of_ble_eq_true rfl, Nat.le_of_ble_eq_true rfl⟩ dX2_tells_9 (Nat.le_of_ble_eq_true rfl)
    · exact v_rU (c_X2_counts G l hL hp3 (by decide) t3 (by (try simp only [List.length_append, List.length_cons, List.length_nil]); omega)) rfl kU_X2_29_4 (v_rcO hp3.2.1 rfl (by decide)) ⟨Nat.le_of_ble_eq_true rfl, Nat.le_of_ble_eq_true rfl⟩ ⟨Nat.le_of_ble_eq_true rfl, Nat.le_of_ble_eq_true rfl⟩ dX2_tells_9 (Nat.le_of_ble_eq_true rfl)
    · exact v_rU (c_X6_counts G l hL hp3 t3 (by (try simp only [List.length_append, List.length_cons, List.length_nil]); omega)) rfl kU_X2_29_6 (v_rcO hp3.2.1 rfl (by decide)) ⟨Nat.le_of_ble_eq_true rfl, Nat.le_of_ble_eq_true rfl⟩ ⟨Nat.le_of_ble_eq_true rfl, Nat.le_of_ble_eq_true rfl⟩ dX2_tells_9 (Nat.le_of_ble_eq_true rfl)
  obtain ⟨rfl, I9, rfl, t9, n9⟩ := h9
  have m9 := kR_tr m3 n9
  have hp9 := PS_k hp m9
  refine v_iconst (pc := 12) (v := nI 2) dX2_tells_12 (by decide) ?_
  refine v_imul (pc := 13) dX2_tells_13 ?_
  exact v_iret (pc := 14) dX2_tells_14 rfl rfl (Nat.le_of_ble_eq_true rfl) (Nat.le_of_ble_eq_true rfl) ⟨rfl, _, rfl, by have e := t9; rw [List.append_assoc] at e; exact e, m9⟩
abbrev rm_X1_tells_3 : Room := { frames := 15, cells := 0, slots := 0, locals := 900 }
set_option maxRecDepth 20000 in
theorem c_X1_tells_3 (G : v_G) (l : Launch) {K : Nat × v_TY} {I : Nat → Nat → Int32} {J : Nat → Nat → Int64} {R : Nat → Nat → Option Nat} (hL : Lay K R) {a i w : Nat} {z : Int32} {tl : List Nat} (hp : PS K I a (p_ci 3) i 3 w) (h : CTr I tl) (hl : tl.length ≤ 8) : v_M G l yX1_tells cX1_tells 3 (some .int) rm_X1_tells_3 [.ref a, .int z, .ref 39] (K, I, J, R) (v_Qi G (fun (x : Int32) (M' : v_MM) => x = (a_t 3 w i z).1 ∧ ∃ I', M' = (K, I', J, R) ∧ CTr I' (tl ++ (a_t 3 w i z).2) ∧ kR I I')) := by
  refine v_of [some (.ref a), some (.int z), some (.ref 39)] (by decide) (Nat.le_of_ble_eq_true rfl) (Nat.le_of_ble_eq_true rfl) rfl ?_
  refine v_aload_n (pc := 0) dX1_tells_0 rfl rfl ?_
  refine v_bipush (pc := 1) (v := nI 40) dX1_tells_1 (by decide) ?_
  refine v_cv (pc := 3) (v_rV (c_X8_begin G l hL h (by omega)) rfl kV_X1_18 (v_rcO (li_39 hL) rfl (by decide)) ⟨Nat.le_of_ble_eq_true rfl, Nat.le_of_ble_eq_true rfl⟩ ⟨Nat.le_of_ble_eq_true rfl, Nat.le_of_ble_eq_true rfl⟩ dX1_tells_3 (Nat.le_of_ble_eq_true rfl)) (fun M3 h3 => ?_)
  obtain ⟨I3, rfl, t3, m3⟩ := h3
  have hp3 := PS_k hp m3
  refine v_aload_n (pc := 6) dX1_tells_6 rfl rfl ?_
  refine v_iload_n (pc := 7) dX1_tells_7 rfl rfl ?_
  refine v_aload_n (pc := 8) dX1_tells_8 rfl rfl ?_
  refine v_ci (pc := 9) (v_rP (c_X2_tells_s G l hL hp3 (by decide) t3 (by (try simp only [List.length_append, List.length_cons, List.length_nil]); omega)) rfl kP_X1_24 hp3.2.1 rfl (by decide) ⟨Nat.le_of_ble_eq_true rfl, Nat.le_of_ble_eq_true rfl⟩ ⟨Nat.le_of_ble_eq_true rfl, Nat.le_of_ble_eq_true rfl⟩ dX1_tells_9 (Nat.le_of_ble_eq_true rfl)) (fun x9 M9 h9 => ?_)
  obtain ⟨rfl, I9, rfl, t9, n9⟩ := h9
  have m9 := kR_tr m3 n9
  have hp9 := PS_k hp m9
  have hpl := a_pt_l 3 w i z
  refine v_aload_n (pc := 12) dX1_tells_12 rfl rfl ?_
  refine v_iconst (pc := 13) (v := nI 1) dX1_tells_13 (by decide) ?_
  refine v_aload_n (pc := 14) dX1_tells_14 rfl rfl ?_
  refine v_ci (pc := 15) (v_rU (c_X2_counts G l hL hp9 (by decide) t9 (by (try simp only [List.length_append, List.length_cons, List.length_nil]); omega)) rfl kU_X1_28_1 (v_rcO hp9.2.1 rfl (by decide)) ⟨Nat.le_of_ble_eq_true rfl, Nat.le_of_ble_eq_true rfl⟩ ⟨Nat.le_of_ble_eq_true rfl, Nat.le_of_ble_eq_true rfl⟩ dX1_tells_15 (Nat.le_of_ble_eq_true rfl)) (fun x15 M15 h15 => ?_)
  obtain ⟨rfl, I15, rfl, t15, n15⟩ := h15
  have m15 := kR_tr m9 n15
  have hp15 := PS_k hp m15
  refine v_iadd (pc := 18) dX1_tells_18 ?_
  exact v_iret (pc := 19) dX1_tells_19 rfl rfl (Nat.le_of_ble_eq_true rfl) (Nat.le_of_ble_eq_true rfl) ⟨rfl, _, rfl, by have e := t15; rw [List.append_assoc, List.append_assoc] at e; exact e, m15⟩
abbrev rm_X1_tells_6 : Room := { frames := 15, cells := 0, slots := 0, locals := 900 }
set_option maxRecDepth 20000 in
theorem c_X1_tells_6 (G : v_G) (l : Launch) {K : Nat × v_TY} {I : Nat → Nat → Int32} {J : Nat → Nat → Int64} {R : Nat → Nat → Option Nat} (hL : Lay K R) {a i w : Nat} {z : Int32} {tl : List Nat} (hp : PS K I a (p_ci 6) i 6 w) (h : CTr I tl) (hl : tl.length ≤ 8) : v_M G l yX1_tells cX1_tells 3 (some .int) rm_X1_tells_6 [.ref a, .int z, .ref 39] (K, I, J, R) (v_Qi G (fun (x : Int32) (M' : v_MM) => x = (a_t 6 w i z).1 ∧ ∃ I', M' = (K, I', J, R) ∧ CTr I' (tl ++ (a_t 6 w i z).2) ∧ kR I I')) := by
  refine v_of [some (.ref a), some (.int z), some (.ref 39)] (by decide) (Nat.le_of_ble_eq_true rfl) (Nat.le_of_ble_eq_true rfl) rfl ?_
  refine v_aload_n (pc := 0) dX1_tells_0 rfl rfl ?_
  refine v_bipush (pc := 1) (v := nI 40) dX1_tells_1 (by decide) ?_
  refine v_cv (pc := 3) (v_rV (c_X8_begin G l hL h (by omega)) rfl kV_X1_18 (v_rcO (li_39 hL) rfl (by decide)) ⟨Nat.le_of_ble_eq_true rfl, Nat.le_of_ble_eq_true rfl⟩ ⟨Nat.le_of_ble_eq_true rfl, Nat.le_of_ble_eq_true rfl⟩ dX1_tells_3 (Nat.le_of_ble_eq_true rfl)) (fun M3 h3 => ?_)
  obtain ⟨I3, rfl, t3, m3⟩ := h3
  have hp3 := PS_k hp m3
  refine v_aload_n (pc := 6) dX1_tells_6 rfl rfl ?_
  refine v_iload_n (pc := 7) dX1_tells_7 rfl rfl ?_
  refine v_aload_n (pc := 8) dX1_tells_8 rfl rfl ?_
  refine v_ci (pc := 9) (v_rP (c_X2_tells_s G l hL hp3 (by decide) t3 (by (try simp only [List.length_append, List.length_cons, List.length_nil]); omega)) rfl kP_X1_24 hp3.2.1 rfl (by decide) ⟨Nat.le_of_ble_eq_true rfl, Nat.le_of_ble_eq_true rfl⟩ ⟨Nat.le_of_ble_eq_true rfl, Nat.le_of_ble_eq_true rfl⟩ dX1_tells_9 (Nat.le_of_ble_eq_true rfl)) (fun x9 M9 h9 => ?_)
  obtain ⟨rfl, I9, rfl, t9, n9⟩ := h9
  have m9 := kR_tr m3 n9
  have hp9 := PS_k hp m9
  have hpl := a_pt_l 6 w i z
  refine v_aload_n (pc := 12) dX1_tells_12 rfl rfl ?_
  refine v_iconst (pc := 13) (v := nI 1) dX1_tells_13 (by decide) ?_
  refine v_aload_n (pc := 14) dX1_tells_14 rfl rfl ?_
  refine v_ci (pc := 15) (v_rU (c_X6_counts G l hL hp9 t9 (by (try simp only [List.length_append, List.length_cons, List.length_nil]); omega)) rfl kU_X1_28_6 (v_rcO hp9.2.1 rfl (by decide)) ⟨Nat.le_of_ble_eq_true rfl, Nat.le_of_ble_eq_true rfl⟩ ⟨Nat.le_of_ble_eq_true rfl, Nat.le_of_ble_eq_true rfl⟩ dX1_tells_15 (Nat.le_of_ble_eq_true rfl)) (fun x15 M15 h15 => ?_)
  obtain ⟨rfl, I15, rfl, t15, n15⟩ := h15
  have m15 := kR_tr m9 n15
  have hp15 := PS_k hp m15
  refine v_iadd (pc := 18) dX1_tells_18 ?_
  exact v_iret (pc := 19) dX1_tells_19 rfl rfl (Nat.le_of_ble_eq_true rfl) (Nat.le_of_ble_eq_true rfl) ⟨rfl, _, rfl, by have e := t15; rw [List.append_assoc, List.append_assoc] at e; exact e, m15⟩
abbrev rm_X4_tells : Room := { frames := 15, cells := 0, slots := 0, locals := 900 }
set_option maxRecDepth 20000 in
theorem c_X4_tells (G : v_G) (l : Launch) {K : Nat × v_TY} {I : Nat → Nat → Int32} {J : Nat → Nat → Int64} {R : Nat → Nat → Option Nat} (hL : Lay K R) {a i w : Nat} {z : Int32} {tl : List Nat} (hp : PS K I a (p_ci 5) i 5 w) (h : CTr I tl) (hl : tl.length ≤ 12) : v_M G l yX4_tells cX4_tells 3 (some .int) rm_X4_tells [.ref a, .int z, .ref 39] (K, I, J, R) (v_Qi G (fun (x : Int32) (M' : v_MM) => x = (a_t 5 w i z).1 ∧ ∃ I', M' = (K, I', J, R) ∧ CTr I' (tl ++ (a_t 5 w i z).2) ∧ kR I I')) := by
  refine v_of [some (.ref a), some (.int z), some (.ref 39)] (by decide) (Nat.le_of_ble_eq_true rfl) (Nat.le_of_ble_eq_true rfl) rfl ?_
  refine v_aload_n (pc := 0) dX4_tells_0 rfl rfl ?_
  refine v_bipush (pc := 1) (v := nI 60) dX4_tells_1 (by decide) ?_
  refine v_cv (pc := 3) (v_rV (c_X8_begin G l hL h (by omega)) rfl kV_X4_23 (v_rcO (li_39 hL) rfl (by decide)) ⟨Nat.le_of_ble_eq_true rfl, Nat.le_of_ble_eq_true rfl⟩ ⟨Nat.le_of_ble_eq_true rfl, Nat.le_of_ble_eq_true rfl⟩ dX4_tells_3 (Nat.le_of_ble_eq_true rfl)) (fun M3 h3 => ?_)
  obtain ⟨I3, rfl, t3, m3⟩ := h3
  have hp3 := PS_k hp m3
  refine v_aload_n (pc := 6) dX4_tells_6 rfl rfl ?_
  refine v_iload_n (pc := 7) dX4_tells_7 rfl rfl ?_
  refine v_aload_n (pc := 8) dX4_tells_8 rfl rfl ?_
  refine v_getV (pc := 9) fg_X4_7_4 dX4_tells_9 hp3.2.1 hp3.2.2.2.1 ?_
  refine v_isub (pc := 12) dX4_tells_12 ?_
  refine v_aload_n (pc := 13) dX4_tells_13 rfl rfl ?_
  refine v_ci (pc := 14) (v_rPU (c_X2_tells_s G l hL hp3 (by decide) t3 (by (try simp only [List.length_append, List.length_cons, List.length_nil]); omega)) rfl kPU_X4_29 hp3.2.1 rfl (by decide) ⟨Nat.le_of_ble_eq_true rfl, Nat.le_of_ble_eq_true rfl⟩ ⟨Nat.le_of_ble_eq_true rfl, Nat.le_of_ble_eq_true rfl⟩ dX4_tells_14 (Nat.le_of_ble_eq_true rfl)) (fun x14 M14 h14 => ?_)
  obtain ⟨rfl, I14, rfl, t14, n14⟩ := h14
  have m14 := kR_tr m3 n14
  have hp14 := PS_k hp m14
  exact v_iret (pc := 17) dX4_tells_17 rfl rfl (Nat.le_of_ble_eq_true rfl) (Nat.le_of_ble_eq_true rfl) ⟨rfl, _, rfl, by have e := t14; rw [List.append_assoc] at e; exact e, m14⟩
abbrev rm_X11_act : Room := { frames := 17, cells := 0, slots := 0, locals := 1100 }
set_option maxRecDepth 20000 in
theorem c_X11_act (G : v_G) (l : Launch) {K : Nat × v_TY} {I : Nat → Nat → Int32} {J : Nat → Nat → Int64} {R : Nat → Nat → Option Nat} (hL : Lay K R) {ii aa z : Int32} {b : BS} {hm : Nat} {p : CLS} (hv : CV K I R 1 b hm p) (hf : HF b hm) : v_M G l yX11_act cX11_act 5 (some .int) rm_X11_act [.ref 0, .int ii, .int aa, .int z] (K, I, J, R) (v_Qi G (fun (x : Int32) (M' : v_MM) => x = (w_act b ii aa z).1 ∧ ∃ I', M' = (K, I', J, R) ∧ CTr I' (w_act b ii aa z).2 ∧ kR I I')) := by
  refine v_of [some (.ref 0), some (.int ii), some (.int aa), some (.int z), none] (by decide) (Nat.le_of_ble_eq_true rfl) (Nat.le_of_ble_eq_true rfl) rfl ?_
  have hB := hv.2.1
  have hn6 := hB.1
  have h15 := pr15 hn6
  have he := ve_now (p := p) hB hf
  have hpp : ∀ i, i < b_n b → ∃ a, R (1 + 1) i = some a := fun i hi => by obtain ⟨a, h1, -⟩ := hv.2.2.2.1 i hi; exact ⟨a, h1⟩
  refine v_aload_n (pc := 0) dX11_act_0 rfl rfl ?_
  refine v_getH (pc := 1) fg_X11_44_11 dX11_act_1 (li_0 hL) (lr_0_9 hL) ?_
  refine v_iconst (pc := 4) (v := nI 0) dX11_act_4 (by decide) ?_
  refine v_putI (pc := 5) pg_X11_263_8 (fun h => by cases h) dX11_act_5 (li_39 hL) rfl rfl ?_
  refine v_aload_n (pc := 8) dX11_act_8 rfl rfl ?_
  refine v_getH (pc := 9) fg_X11_12_11 dX11_act_9 (li_0 hL) (lr_0_0 hL) ?_
  refine v_iload_n (pc := 12) dX11_act_12 rfl rfl ?_
  refine v_cr (pc := 13) (v_rV (c_X9_personAt G l hL (Or.inl rfl) ((v_u_h (by decide)).trans hv.1.1) (by omega) hpp) rfl kV_X11_68 (v_rcO (li_1 hL) rfl (by decide)) ⟨Nat.le_of_ble_eq_true rfl, Nat.le_of_ble_eq_true rfl⟩ ⟨Nat.le_of_ble_eq_true rfl, Nat.le_of_ble_eq_true rfl⟩ dX11_act_13 (Nat.le_of_ble_eq_true rfl)) (fun x13 M13 h13 => ?_)
  rcases h13 with ⟨e1, rfl, rfl⟩ | ⟨i, a, hi, rfl, e1, ha, rfl, rfl⟩
  · refine v_astoreN (pc := 16) dX11_act_16 (by decide) rfl ?_
    refine v_aloadN (pc := 18) dX11_act_18 rfl ?_
    refine v_ifnonnull0 (pc := 20) dX11_act_20 ?_
    refine v_iconst (pc := 23) (v := nI 0) dX11_act_23 (by decide) ?_
    exact v_iret (pc := 24) dX11_act_24 rfl rfl (Nat.le_of_ble_eq_true rfl) (Nat.le_of_ble_eq_true rfl) ⟨by simp only [w_act, e1]; rfl, _, rfl, by simp only [w_act, e1]; exact CTr_0, kR_0⟩
  · obtain ⟨a2, ha2, hps⟩ := hv.2.2.2.1 i hi
    have : a2 = a := Option.some.inj (ha2.symm.trans ha)
    subst this
    have hk6 : b_k b i ≤ 6 := hB.2.2.1 i
    have hp0 := PS_k hps kR_0
    obtain ⟨k, hk⟩ : ∃ k, b_k b i = k := ⟨_, rfl⟩
    rw [hk] at hp0 hk6
    refine v_astore (pc := 16) dX11_act_16 (by decide) rfl ?_
    refine v_aload (pc := 18) dX11_act_18 rfl ?_
    refine v_ifnonnull (pc := 20) (tgt := 25) dX11_act_20 (by decide) ?_
    refine v_iload_n (pc := 25) dX11_act_25 rfl rfl ?_
    rcases x_sw3 aa with rfl | rfl | rfl | ⟨e2, e3⟩
    · have e2 : x_nat (nI 0) 3 = some 0 := rfl
      refine v_tableIn (pc := 26) (tgt := 52) dX11_act_26 (by decide) (by decide) rfl (by decide) ?_
      refine v_aload (pc := 52) dX11_act_52 rfl ?_
      refine v_iload_n (pc := 54) dX11_act_54 rfl rfl ?_
      refine v_aload_n (pc := 55) dX11_act_55 rfl rfl ?_
      refine v_getH (pc := 56) fg_X11_44_11 dX11_act_56 (li_0 hL) (lr_0_9 hL) ?_
      refine v_ci (Z' := rm_X2_meets) (rest := []) (Post := fun (x : Int32) (M' : v_MM) => x = (a_m k (b_v b i) i z).1 ∧ ∃ I', M' = (K, I', J, R) ∧ CTr I' (([]) ++ (a_m k (b_v b i) i z).2) ∧ kR (v_u I 39 1 (nI 0)) I') ?_ (fun x59 M59 h59 => ?_)
      · rcases (show k = 0 ∨ k = 1 ∨ k = 2 ∨ k = 3 ∨ k = 4 ∨ k = 5 ∨ k = 6 by omega) with rfl | rfl | rfl | rfl | rfl | rfl | rfl
        · exact v_rU (c_X2_meets G l hL hp0 (by decide) CTr_0 (by decide)) rfl kU_X11_266_2 (v_rcO hp0.2.1 rfl (by decide)) ⟨Nat.le_of_ble_eq_true rfl, Nat.le_of_ble_eq_true rfl⟩ ⟨Nat.le_of_ble_eq_true rfl, Nat.le_of_ble_eq_true rfl⟩ dX11_act_59 (Nat.le_of_ble_eq_true rfl)
        · exact v_rU (c_X2_meets G l hL hp0 (by decide) CTr_0 (by decide)) rfl kU_X11_266_10 (v_rcO hp0.2.1 rfl (by decide)) ⟨Nat.le_of_ble_eq_true rfl, Nat.le_of_ble_eq_true rfl⟩ ⟨Nat.le_of_ble_eq_true rfl, Nat.le_of_ble_eq_true rfl⟩ dX11_act_59 (Nat.le_of_ble_eq_true rfl)
        · exact v_rU (c_X3_meets_2 G l hL hp0 CTr_0 (by decide)) rfl kU_X11_266_3 (v_rcO hp0.2.1 rfl (by decide)) ⟨Nat.le_of_ble_eq_true rfl, Nat.le_of_ble_eq_true rfl⟩ ⟨Nat.le_of_ble_eq_true rfl, Nat.le_of_ble_eq_true rfl⟩ dX11_act_59 (Nat.le_of_ble_eq_true rfl)
        · exact v_rU (c_X2_meets G l hL hp0 (by decide) CTr_0 (by decide)) rfl kU_X11_266_1 (v_rcO hp0.2.1 rfl (by decide)) ⟨Nat.le_of_ble_eq_true rfl, Nat.le_of_ble_eq_true rfl⟩ ⟨Nat.le_of_ble_eq_true rfl, Nat.le_of_ble_eq_true rfl⟩ dX11_act_59 (Nat.le_of_ble_eq_true rfl)
        · exact v_rU (c_X0_meets G l hL hp0 CTr_0 (by decide)) rfl kU_X11_266_0 (v_rcO hp0.2.1 rfl (by decide)) ⟨Nat.le_of_ble_eq_true rfl, Nat.le_of_ble_eq_true rfl⟩ ⟨Nat.le_of_ble_eq_true rfl, Nat.le_of_ble_eq_true rfl⟩ dX11_act_59 (Nat.le_of_ble_eq_true rfl)
        · exact v_rU (c_X3_meets_5 G l hL hp0 CTr_0 (by decide)) rfl kU_X11_266_4 (v_rcO hp0.2.1 rfl (by decide)) ⟨Nat.le_of_ble_eq_true rfl, Nat.le_of_ble_eq_true rfl⟩ ⟨Nat.le_of_ble_eq_true rfl, Nat.le_of_ble_eq_true rfl⟩ dX11_act_59 (Nat.le_of_ble_eq_true rfl)
        · exact v_rU (c_X6_meets G l hL hp0 CTr_0 (by decide)) rfl kU_X11_266_6 (v_rcO hp0.2.1 rfl (by decide)) ⟨Nat.le_of_ble_eq_true rfl, Nat.le_of_ble_eq_true rfl⟩ ⟨Nat.le_of_ble_eq_true rfl, Nat.le_of_ble_eq_true rfl⟩ dX11_act_59 (Nat.le_of_ble_eq_true rfl)
      obtain ⟨rfl, I59, rfl, t59, n59⟩ := h59
      rw [List.nil_append] at t59
      exact v_iret (pc := 62) dX11_act_62 rfl rfl (Nat.le_of_ble_eq_true rfl) (Nat.le_of_ble_eq_true rfl) (by first | exact ⟨by simp only [w_act, e1, e2, hk], _, rfl, by simp only [w_act, e1, e2, hk]; exact t59, kR_tr kR_0 n59⟩ | exact ⟨by simp only [w_act, e1, e2, hk], _, rfl, by simp only [w_act, e1, e2, hk]; exact t70, kR_tr kR_0 n70⟩ | exact ⟨by simp only [w_act, e1, e2, hk], _, rfl, by simp only [w_act, e1, e2, hk]; exact t81, kR_tr kR_0 n81⟩ | exact ⟨by simp only [w_act, e1, e2]; rfl, _, rfl, by simp only [w_act, e1, e2]; exact CTr_0, kR_0⟩)
    · have e2 : x_nat (nI 1) 3 = some 1 := rfl
      refine v_tableIn (pc := 26) (tgt := 63) dX11_act_26 (by decide) (by decide) rfl (by decide) ?_
      refine v_aload (pc := 63) dX11_act_63 rfl ?_
      refine v_iload_n (pc := 65) dX11_act_65 rfl rfl ?_
      refine v_aload_n (pc := 66) dX11_act_66 rfl rfl ?_
      refine v_getH (pc := 67) fg_X11_44_11 dX11_act_67 (li_0 hL) (lr_0_9 hL) ?_
      refine v_ci (Z' := rm_X2_counts) (rest := []) (Post := fun (x : Int32) (M' : v_MM) => x = (a_c k (b_v b i) i z).1 ∧ ∃ I', M' = (K, I', J, R) ∧ CTr I' (([]) ++ (a_c k (b_v b i) i z).2) ∧ kR (v_u I 39 1 (nI 0)) I') ?_ (fun x70 M70 h70 => ?_)
      · rcases (show k = 0 ∨ k = 1 ∨ k = 2 ∨ k = 3 ∨ k = 4 ∨ k = 5 ∨ k = 6 by omega) with rfl | rfl | rfl | rfl | rfl | rfl | rfl
        · exact v_rU (c_X2_counts G l hL hp0 (by decide) CTr_0 (by decide)) rfl kU_X11_270_2 (v_rcO hp0.2.1 rfl (by decide)) ⟨Nat.le_of_ble_eq_true rfl, Nat.le_of_ble_eq_true rfl⟩ ⟨Nat.le_of_ble_eq_true rfl, Nat.le_of_ble_eq_true rfl⟩ dX11_act_70 (Nat.le_of_ble_eq_true rfl)
        · exact v_rU (c_X10_counts_1 G l hL hp0 CTr_0 (by decide)) rfl kU_X11_270_10 (v_rcO hp0.2.1 rfl (by decide)) ⟨Nat.le_of_ble_eq_true rfl, Nat.le_of_ble_eq_true rfl⟩ ⟨Nat.le_of_ble_eq_true rfl, Nat.le_of_ble_eq_true rfl⟩ dX11_act_70 (Nat.le_of_ble_eq_true rfl)
        · exact v_rU (c_X2_counts G l hL hp0 (by decide) CTr_0 (by decide)) rfl kU_X11_270_3 (v_rcO hp0.2.1 rfl (by decide)) ⟨Nat.le_of_ble_eq_true rfl, Nat.le_of_ble_eq_true rfl⟩ ⟨Nat.le_of_ble_eq_true rfl, Nat.le_of_ble_eq_true rfl⟩ dX11_act_70 (Nat.le_of_ble_eq_true rfl)
        · exact v_rU (c_X2_counts G l hL hp0 (by decide) CTr_0 (by decide)) rfl kU_X11_270_1 (v_rcO hp0.2.1 rfl (by decide)) ⟨Nat.le_of_ble_eq_true rfl, Nat.le_of_ble_eq_true rfl⟩ ⟨Nat.le_of_ble_eq_true rfl, Nat.le_of_ble_eq_true rfl⟩ dX11_act_70 (Nat.le_of_ble_eq_true rfl)
        · exact v_rU (c_X0_counts G l hL hp0 CTr_0 (by decide)) rfl kU_X11_270_0 (v_rcO hp0.2.1 rfl (by decide)) ⟨Nat.le_of_ble_eq_true rfl, Nat.le_of_ble_eq_true rfl⟩ ⟨Nat.le_of_ble_eq_true rfl, Nat.le_of_ble_eq_true rfl⟩ dX11_act_70 (Nat.le_of_ble_eq_true rfl)
        · exact v_rU (c_X2_counts G l hL hp0 (by decide) CTr_0 (by decide)) rfl kU_X11_270_4 (v_rcO hp0.2.1 rfl (by decide)) ⟨Nat.le_of_ble_eq_true rfl, Nat.le_of_ble_eq_true rfl⟩ ⟨Nat.le_of_ble_eq_true rfl, Nat.le_of_ble_eq_true rfl⟩ dX11_act_70 (Nat.le_of_ble_eq_true rfl)
        · exact v_rU (c_X6_counts G l hL hp0 CTr_0 (by decide)) rfl kU_X11_270_6 (v_rcO hp0.2.1 rfl (by decide)) ⟨Nat.le_of_ble_eq_true rfl, Nat.le_of_ble_eq_true rfl⟩ ⟨Nat.le_of_ble_eq_true rfl, Nat.le_of_ble_eq_true rfl⟩ dX11_act_70 (Nat.le_of_ble_eq_true rfl)
      obtain ⟨rfl, I70, rfl, t70, n70⟩ := h70
      rw [List.nil_append] at t70
      exact v_iret (pc := 73) dX11_act_73 rfl rfl (Nat.le_of_ble_eq_true rfl) (Nat.le_of_ble_eq_true rfl) (by first | exact ⟨by simp only [w_act, e1, e2, hk], _, rfl, by simp only [w_act, e1, e2, hk]; exact t59, kR_tr kR_0 n59⟩ | exact ⟨by simp only [w_act, e1, e2, hk], _, rfl, by simp only [w_act, e1, e2, hk]; exact t70, kR_tr kR_0 n70⟩ | exact ⟨by simp only [w_act, e1, e2, hk], _, rfl, by simp only [w_act, e1, e2, hk]; exact t81, kR_tr kR_0 n81⟩ | exact ⟨by simp only [w_act, e1, e2]; rfl, _, rfl, by simp only [w_act, e1, e2]; exact CTr_0, kR_0⟩)
    · have e2 : x_nat (nI 2) 3 = some 2 := rfl
      refine v_tableIn (pc := 26) (tgt := 74) dX11_act_26 (by decide) (by decide) rfl (by decide) ?_
      refine v_aload (pc := 74) dX11_act_74 rfl ?_
      refine v_iload_n (pc := 76) dX11_act_76 rfl rfl ?_
      refine v_aload_n (pc := 77) dX11_act_77 rfl rfl ?_
      refine v_getH (pc := 78) fg_X11_44_11 dX11_act_78 (li_0 hL) (lr_0_9 hL) ?_
      refine v_ci (Z' := rm_X2_tells) (rest := []) (Post := fun (x : Int32) (M' : v_MM) => x = (a_t k (b_v b i) i z).1 ∧ ∃ I', M' = (K, I', J, R) ∧ CTr I' (([]) ++ (a_t k (b_v b i) i z).2) ∧ kR (v_u I 39 1 (nI 0)) I') ?_ (fun x81 M81 h81 => ?_)
      · rcases (show k = 0 ∨ k = 1 ∨ k = 2 ∨ k = 3 ∨ k = 4 ∨ k = 5 ∨ k = 6 by omega) with rfl | rfl | rfl | rfl | rfl | rfl | rfl
        · exact v_rU (c_X2_tells G l hL hp0 (by decide) CTr_0 (by decide)) rfl kU_X11_273_2 (v_rcO hp0.2.1 rfl (by decide)) ⟨Nat.le_of_ble_eq_true rfl, Nat.le_of_ble_eq_true rfl⟩ ⟨Nat.le_of_ble_eq_true rfl, Nat.le_of_ble_eq_true rfl⟩ dX11_act_81 (Nat.le_of_ble_eq_true rfl)
        · exact v_rU (c_X2_tells G l hL hp0 (by decide) CTr_0 (by decide)) rfl kU_X11_273_10 (v_rcO hp0.2.1 rfl (by decide)) ⟨Nat.le_of_ble_eq_true rfl, Nat.le_of_ble_eq_true rfl⟩ ⟨Nat.le_of_ble_eq_true rfl, Nat.le_of_ble_eq_true rfl⟩ dX11_act_81 (Nat.le_of_ble_eq_true rfl)
        · exact v_rU (c_X2_tells G l hL hp0 (by decide) CTr_0 (by decide)) rfl kU_X11_273_3 (v_rcO hp0.2.1 rfl (by decide)) ⟨Nat.le_of_ble_eq_true rfl, Nat.le_of_ble_eq_true rfl⟩ ⟨Nat.le_of_ble_eq_true rfl, Nat.le_of_ble_eq_true rfl⟩ dX11_act_81 (Nat.le_of_ble_eq_true rfl)
        · exact v_rU (c_X1_tells_3 G l hL hp0 CTr_0 (by decide)) rfl kU_X11_273_1 (v_rcO hp0.2.1 rfl (by decide)) ⟨Nat.le_of_ble_eq_true rfl, Nat.le_of_ble_eq_true rfl⟩ ⟨Nat.le_of_ble_eq_true rfl, Nat.le_of_ble_eq_true rfl⟩ dX11_act_81 (Nat.le_of_ble_eq_true rfl)
        · exact v_rU (c_X2_tells G l hL hp0 (by decide) CTr_0 (by decide)) rfl kU_X11_273_0 (v_rcO hp0.2.1 rfl (by decide)) ⟨Nat.le_of_ble_eq_true rfl, Nat.le_of_ble_eq_true rfl⟩ ⟨Nat.le_of_ble_eq_true rfl, Nat.le_of_ble_eq_true rfl⟩ dX11_act_81 (Nat.le_of_ble_eq_true rfl)
        · exact v_rU (c_X4_tells G l hL hp0 CTr_0 (by decide)) rfl kU_X11_273_4 (v_rcO hp0.2.1 rfl (by decide)) ⟨Nat.le_of_ble_eq_true rfl, Nat.le_of_ble_eq_true rfl⟩ ⟨Nat.le_of_ble_eq_true rfl, Nat.le_of_ble_eq_true rfl⟩ dX11_act_81 (Nat.le_of_ble_eq_true rfl)
        · exact v_rU (c_X1_tells_6 G l hL hp0 CTr_0 (by decide)) rfl kU_X11_273_6 (v_rcO hp0.2.1 rfl (by decide)) ⟨Nat.le_of_ble_eq_true rfl, Nat.le_of_ble_eq_true rfl⟩ ⟨Nat.le_of_ble_eq_true rfl, Nat.le_of_ble_eq_true rfl⟩ dX11_act_81 (Nat.le_of_ble_eq_true rfl)
      obtain ⟨rfl, I81, rfl, t81, n81⟩ := h81
      rw [List.nil_append] at t81
      exact v_iret (pc := 84) dX11_act_84 rfl rfl (Nat.le_of_ble_eq_true rfl) (Nat.le_of_ble_eq_true rfl) (by first | exact ⟨by simp only [w_act, e1, e2, hk], _, rfl, by simp only [w_act, e1, e2, hk]; exact t59, kR_tr kR_0 n59⟩ | exact ⟨by simp only [w_act, e1, e2, hk], _, rfl, by simp only [w_act, e1, e2, hk]; exact t70, kR_tr kR_0 n70⟩ | exact ⟨by simp only [w_act, e1, e2, hk], _, rfl, by simp only [w_act, e1, e2, hk]; exact t81, kR_tr kR_0 n81⟩ | exact ⟨by simp only [w_act, e1, e2]; rfl, _, rfl, by simp only [w_act, e1, e2]; exact CTr_0, kR_0⟩)
    · refine v_tableOut (pc := 26) (tgt := 85) dX11_act_26 e3 (by decide) ?_
      refine v_iconst (pc := 85) (v := nI 0) dX11_act_85 (by decide) ?_
      exact v_iret (pc := 86) dX11_act_86 rfl rfl (Nat.le_of_ble_eq_true rfl) (Nat.le_of_ble_eq_true rfl) (by first | exact ⟨by simp only [w_act, e1, e2, hk], _, rfl, by simp only [w_act, e1, e2, hk]; exact t59, kR_tr kR_0 n59⟩ | exact ⟨by simp only [w_act, e1, e2, hk], _, rfl, by simp only [w_act, e1, e2, hk]; exact t70, kR_tr kR_0 n70⟩ | exact ⟨by simp only [w_act, e1, e2, hk], _, rfl, by simp only [w_act, e1, e2, hk]; exact t81, kR_tr kR_0 n81⟩ | exact ⟨by simp only [w_act, e1, e2]; rfl, _, rfl, by simp only [w_act, e1, e2]; exact CTr_0, kR_0⟩)
