/-! THE CLASS: of which kind one is; row, feed, image, undo, taken -/
section INST
variable {G : v_G} {l : Launch} {y : MethodName} {cc : ByteArray} {nL : Nat} {rt : Option FieldType} {Z : Room} {Qc : Array Value → State → Outcome → State → Prop} {cells slots pc : Nat} {lv : List (Option Value)} {st : List Value}
variable {K : Nat × v_TY} {I : Nat → Nat → Int32} {J : Nat → Nat → Int64} {R : Nat → Nat → Option Nat} {n : Nat}
theorem v_inst1 {idx h i : Nat} (hi : v_is K h (p_ci i) 0) (h6 : i ≤ 6) (hw : Cond.classLink y.cls idx "OneFriend$Weighty" ∈ wsG) (hd : decode cc pc = .ok (.instanceof idx, 3)) (kk : v_V G l y cc nL rt Z Qc cells slots (pc + 3) lv (.int (v_p (k_sub 1 i = true)) :: st) (K, I, J, R)) : v_V G l y cc nL rt Z Qc cells slots pc lv (.ref h :: st) (K, I, J, R) := by
  rcases (show i = 0 ∨ i = 1 ∨ i = 2 ∨ i = 3 ∨ i = 4 ∨ i = 5 ∨ i = 6 by omega) with rfl | rfl | rfl | rfl | rfl | rfl | rfl
  · rw [← v_pz (show ¬ k_sub 1 0 = true by decide)] at kk
    exact v_instN hi (by decide) rfl hw (List.mem_of_getElem? (i := 0) rfl) hd kk
  · rw [← v_po (show  k_sub 1 1 = true by decide)] at kk
    exact v_instY hi (by decide) rfl hw (Or.inl rfl) hd kk
  · rw [← v_pz (show ¬ k_sub 1 2 = true by decide)] at kk
    exact v_instN hi (by decide) rfl hw (List.mem_of_getElem? (i := 11) rfl) hd kk
  · rw [← v_pz (show ¬ k_sub 1 3 = true by decide)] at kk
    exact v_instN hi (by decide) rfl hw (List.mem_of_getElem? (i := 16) rfl) hd kk
  · rw [← v_po (show  k_sub 1 4 = true by decide)] at kk
    exact v_instY hi (by decide) rfl hw (Or.inr cs_0_10) hd kk
  · rw [← v_pz (show ¬ k_sub 1 5 = true by decide)] at kk
    exact v_instN hi (by decide) rfl hw (List.mem_of_getElem? (i := 25) rfl) hd kk
  · rw [← v_pz (show ¬ k_sub 1 6 = true by decide)] at kk
    exact v_instN hi (by decide) rfl hw (List.mem_of_getElem? (i := 29) rfl) hd kk
theorem v_inst2 {idx h i : Nat} (hi : v_is K h (p_ci i) 0) (h6 : i ≤ 6) (hw : Cond.classLink y.cls idx "OneFriend$Secret" ∈ wsG) (hd : decode cc pc = .ok (.instanceof idx, 3)) (kk : v_V G l y cc nL rt Z Qc cells slots (pc + 3) lv (.int (v_p (k_sub 2 i = true)) :: st) (K, I, J, R)) : v_V G l y cc nL rt Z Qc cells slots pc lv (.ref h :: st) (K, I, J, R) := by
  rcases (show i = 0 ∨ i = 1 ∨ i = 2 ∨ i = 3 ∨ i = 4 ∨ i = 5 ∨ i = 6 by omega) with rfl | rfl | rfl | rfl | rfl | rfl | rfl
  · rw [← v_pz (show ¬ k_sub 2 0 = true by decide)] at kk
    exact v_instN hi (by decide) rfl hw (List.mem_of_getElem? (i := 1) rfl) hd kk
  · rw [← v_pz (show ¬ k_sub 2 1 = true by decide)] at kk
    exact v_instN hi (by decide) rfl hw (List.mem_of_getElem? (i := 6) rfl) hd kk
  · rw [← v_po (show  k_sub 2 2 = true by decide)] at kk
    exact v_instY hi (by decide) rfl hw (Or.inl rfl) hd kk
  · rw [← v_pz (show ¬ k_sub 2 3 = true by decide)] at kk
    exact v_instN hi (by decide) rfl hw (List.mem_of_getElem? (i := 17) rfl) hd kk
  · rw [← v_pz (show ¬ k_sub 2 4 = true by decide)] at kk
    exact v_instN hi (by decide) rfl hw (List.mem_of_getElem? (i := 21) rfl) hd kk
  · rw [← v_po (show  k_sub 2 5 = true by decide)] at kk
    exact v_instY hi (by decide) rfl hw (Or.inr cs_4_3) hd kk
  · rw [← v_pz (show ¬ k_sub 2 6 = true by decide)] at kk
    exact v_instN hi (by decide) rfl hw (List.mem_of_getElem? (i := 30) rfl) hd kk
theorem v_inst3 {idx h i : Nat} (hi : v_is K h (p_ci i) 0) (h6 : i ≤ 6) (hw : Cond.classLink y.cls idx "OneFriend$Moody" ∈ wsG) (hd : decode cc pc = .ok (.instanceof idx, 3)) (kk : v_V G l y cc nL rt Z Qc cells slots (pc + 3) lv (.int (v_p (k_sub 3 i = true)) :: st) (K, I, J, R)) : v_V G l y cc nL rt Z Qc cells slots pc lv (.ref h :: st) (K, I, J, R) := by
  rcases (show i = 0 ∨ i = 1 ∨ i = 2 ∨ i = 3 ∨ i = 4 ∨ i = 5 ∨ i = 6 by omega) with rfl | rfl | rfl | rfl | rfl | rfl | rfl
  · rw [← v_pz (show ¬ k_sub 3 0 = true by decide)] at kk
    exact v_instN hi (by decide) rfl hw (List.mem_of_getElem? (i := 2) rfl) hd kk
  · rw [← v_pz (show ¬ k_sub 3 1 = true by decide)] at kk
    exact v_instN hi (by decide) rfl hw (List.mem_of_getElem? (i := 7) rfl) hd kk
  · rw [← v_pz (show ¬ k_sub 3 2 = true by decide)] at kk
    exact v_instN hi (by decide) rfl hw (List.mem_of_getElem? (i := 12) rfl) hd kk
  · rw [← v_po (show  k_sub 3 3 = true by decide)] at kk
    exact v_instY hi (by decide) rfl hw (Or.inl rfl) hd kk
  · rw [← v_pz (show ¬ k_sub 3 4 = true by decide)] at kk
    exact v_instN hi (by decide) rfl hw (List.mem_of_getElem? (i := 22) rfl) hd kk
  · rw [← v_pz (show ¬ k_sub 3 5 = true by decide)] at kk
    exact v_instN hi (by decide) rfl hw (List.mem_of_getElem? (i := 26) rfl) hd kk
  · rw [← v_po (show  k_sub 3 6 = true by decide)] at kk
    exact v_instY hi (by decide) rfl hw (Or.inr cs_6_1) hd kk
theorem v_inst4 {idx h i : Nat} (hi : v_is K h (p_ci i) 0) (h6 : i ≤ 6) (hw : Cond.classLink y.cls idx "OneFriend$Mayor" ∈ wsG) (hd : decode cc pc = .ok (.instanceof idx, 3)) (kk : v_V G l y cc nL rt Z Qc cells slots (pc + 3) lv (.int (v_p (k_sub 4 i = true)) :: st) (K, I, J, R)) : v_V G l y cc nL rt Z Qc cells slots pc lv (.ref h :: st) (K, I, J, R) := by
  rcases (show i = 0 ∨ i = 1 ∨ i = 2 ∨ i = 3 ∨ i = 4 ∨ i = 5 ∨ i = 6 by omega) with rfl | rfl | rfl | rfl | rfl | rfl | rfl
  · rw [← v_pz (show ¬ k_sub 4 0 = true by decide)] at kk
    exact v_instN hi (by decide) rfl hw (List.mem_of_getElem? (i := 3) rfl) hd kk
  · rw [← v_pz (show ¬ k_sub 4 1 = true by decide)] at kk
    exact v_instN hi (by decide) rfl hw (List.mem_of_getElem? (i := 8) rfl) hd kk
  · rw [← v_pz (show ¬ k_sub 4 2 = true by decide)] at kk
    exact v_instN hi (by decide) rfl hw (List.mem_of_getElem? (i := 13) rfl) hd kk
  · rw [← v_pz (show ¬ k_sub 4 3 = true by decide)] at kk
    exact v_instN hi (by decide) rfl hw (List.mem_of_getElem? (i := 18) rfl) hd kk
  · rw [← v_po (show  k_sub 4 4 = true by decide)] at kk
    exact v_instY hi (by decide) rfl hw (Or.inl rfl) hd kk
  · rw [← v_pz (show ¬ k_sub 4 5 = true by decide)] at kk
    exact v_instN hi (by decide) rfl hw (List.mem_of_getElem? (i := 27) rfl) hd kk
  · rw [← v_pz (show ¬ k_sub 4 6 = true by decide)] at kk
    exact v_instN hi (by decide) rfl hw (List.mem_of_getElem? (i := 31) rfl) hd kk
theorem v_inst5 {idx h i : Nat} (hi : v_is K h (p_ci i) 0) (h6 : i ≤ 6) (hw : Cond.classLink y.cls idx "OneFriend$Shy" ∈ wsG) (hd : decode cc pc = .ok (.instanceof idx, 3)) (kk : v_V G l y cc nL rt Z Qc cells slots (pc + 3) lv (.int (v_p (k_sub 5 i = true)) :: st) (K, I, J, R)) : v_V G l y cc nL rt Z Qc cells slots pc lv (.ref h :: st) (K, I, J, R) := by
  rcases (show i = 0 ∨ i = 1 ∨ i = 2 ∨ i = 3 ∨ i = 4 ∨ i = 5 ∨ i = 6 by omega) with rfl | rfl | rfl | rfl | rfl | rfl | rfl
  · rw [← v_pz (show ¬ k_sub 5 0 = true by decide)] at kk
    exact v_instN hi (by decide) rfl hw (List.mem_of_getElem? (i := 4) rfl) hd kk
  · rw [← v_pz (show ¬ k_sub 5 1 = true by decide)] at kk
    exact v_instN hi (by decide) rfl hw (List.mem_of_getElem? (i := 9) rfl) hd kk
  · rw [← v_pz (show ¬ k_sub 5 2 = true by decide)] at kk
    exact v_instN hi (by decide) rfl hw (List.mem_of_getElem? (i := 14) rfl) hd kk
  · rw [← v_pz (show ¬ k_sub 5 3 = true by decide)] at kk
    exact v_instN hi (by decide) rfl hw (List.mem_of_getElem? (i := 19) rfl) hd kk
  · rw [← v_pz (show ¬ k_sub 5 4 = true by decide)] at kk
    exact v_instN hi (by decide) rfl hw (List.mem_of_getElem? (i := 23) rfl) hd kk
  · rw [← v_po (show  k_sub 5 5 = true by decide)] at kk
    exact v_instY hi (by decide) rfl hw (Or.inl rfl) hd kk
  · rw [← v_pz (show ¬ k_sub 5 6 = true by decide)] at kk
    exact v_instN hi (by decide) rfl hw (List.mem_of_getElem? (i := 32) rfl) hd kk
theorem v_inst6 {idx h i : Nat} (hi : v_is K h (p_ci i) 0) (h6 : i ≤ 6) (hw : Cond.classLink y.cls idx "OneFriend$Told" ∈ wsG) (hd : decode cc pc = .ok (.instanceof idx, 3)) (kk : v_V G l y cc nL rt Z Qc cells slots (pc + 3) lv (.int (v_p (k_sub 6 i = true)) :: st) (K, I, J, R)) : v_V G l y cc nL rt Z Qc cells slots pc lv (.ref h :: st) (K, I, J, R) := by
  rcases (show i = 0 ∨ i = 1 ∨ i = 2 ∨ i = 3 ∨ i = 4 ∨ i = 5 ∨ i = 6 by omega) with rfl | rfl | rfl | rfl | rfl | rfl | rfl
  · rw [← v_pz (show ¬ k_sub 6 0 = true by decide)] at kk
    exact v_instN hi (by decide) rfl hw (List.mem_of_getElem? (i := 5) rfl) hd kk
  · rw [← v_pz (show ¬ k_sub 6 1 = true by decide)] at kk
    exact v_instN hi (by decide) rfl hw (List.mem_of_getElem? (i := 10) rfl) hd kk
  · rw [← v_pz (show ¬ k_sub 6 2 = true by decide)] at kk
    exact v_instN hi (by decide) rfl hw (List.mem_of_getElem? (i := 15) rfl) hd kk
  · rw [← v_pz (show ¬ k_sub 6 3 = true by decide)] at kk
    exact v_instN hi (by decide) rfl hw (List.mem_of_getElem? (i := 20) rfl) hd kk
  · rw [← v_pz (show ¬ k_sub 6 4 = true by decide)] at kk
    exact v_instN hi (by decide) rfl hw (List.mem_of_getElem? (i := 24) rfl) hd kk
  · rw [← v_pz (show ¬ k_sub 6 5 = true by decide)] at kk
    exact v_instN hi (by decide) rfl hw (List.mem_of_getElem? (i := 28) rfl) hd kk
  · rw [← v_po (show  k_sub 6 6 = true by decide)] at kk
    exact v_instY hi (by decide) rfl hw (Or.inl rfl) hd kk
end INST
theorem b_i8 : ∀ s, s < 128 → vp_nar .byte (nI s).toInt8.toInt32 = nI s := by decide +kernel
abbrev rm_X11_isOfKind : Room := { frames := 0, cells := 0, slots := 0, locals := 0 }
set_option maxRecDepth 20000 in
theorem c_X11_isOfKind (G : v_G) (l : Launch) {K : Nat × v_TY} {I : Nat → Nat → Int32} {J : Nat → Nat → Int64} {R : Nat → Nat → Option Nat} {a i k : Nat} (ha : v_is K a (p_ci i) 0) (h6 : i ≤ 6) (hk : k < 7) : v_M G l yX11_isOfKind cX11_isOfKind 2 (some .boolean) rm_X11_isOfKind [.ref a, .int (nI k)] (K, I, J, R) (v_Qi G (fun (x : Int32) (M' : v_MM) => x = v_p (k_sub k i = true) ∧ M' = (K, I, J, R))) := by
  refine v_of [some (.ref a), some (.int (nI k))] (by decide) (Nat.le_of_ble_eq_true rfl) (Nat.le_of_ble_eq_true rfl) rfl ?_
  refine v_iload_n (pc := 0) dX11_isOfKind_0 rfl rfl ?_
  rcases (show k = 0 ∨ k = 1 ∨ k = 2 ∨ k = 3 ∨ k = 4 ∨ k = 5 ∨ k = 6 by omega) with rfl | rfl | rfl | rfl | rfl | rfl | rfl
  · refine v_tableOut (pc := 1) (tgt := 70) dX11_isOfKind_1 (by decide) (by decide) ?_
    refine v_iconst (pc := 70) (v := nI 1) dX11_isOfKind_70 (by decide) ?_
    exact v_iret (pc := 71) dX11_isOfKind_71 rfl rfl (Nat.le_of_ble_eq_true rfl) (Nat.le_of_ble_eq_true rfl) ⟨by first | rfl | exact v_po rfl, rfl⟩
  · refine v_tableIn (pc := 1) (tgt := 40) dX11_isOfKind_1 (by decide) (by decide) rfl (by decide) ?_
    refine v_aload_n (pc := 40) dX11_isOfKind_40 rfl rfl ?_
    refine v_inst1 (pc := 41) ha h6 cl_X11_304 dX11_isOfKind_41 ?_
    exact v_iret (pc := 44) dX11_isOfKind_44 rfl (v_p_z rfl) (Nat.le_of_ble_eq_true rfl) (Nat.le_of_ble_eq_true rfl) ⟨by first | rfl | exact v_po rfl, rfl⟩
  · refine v_tableIn (pc := 1) (tgt := 45) dX11_isOfKind_1 (by decide) (by decide) rfl (by decide) ?_
    refine v_aload_n (pc := 45) dX11_isOfKind_45 rfl rfl ?_
    refine v_inst2 (pc := 46) ha h6 cl_X11_309 dX11_isOfKind_46 ?_
    exact v_iret (pc := 49) dX11_isOfKind_49 rfl (v_p_z rfl) (Nat.le_of_ble_eq_true rfl) (Nat.le_of_ble_eq_true rfl) ⟨by first | rfl | exact v_po rfl, rfl⟩
  · refine v_tableIn (pc := 1) (tgt := 50) dX11_isOfKind_1 (by decide) (by decide) rfl (by decide) ?_
    refine v_aload_n (pc := 50) dX11_isOfKind_50 rfl rfl ?_
    refine v_inst3 (pc := 51) ha h6 cl_X11_312 dX11_isOfKind_51 ?_
    exact v_iret (pc := 54) dX11_isOfKind_54 rfl (v_p_z rfl) (Nat.le_of_ble_eq_true rfl) (Nat.le_of_ble_eq_true rfl) ⟨by first | rfl | exact v_po rfl, rfl⟩
  · refine v_tableIn (pc := 1) (tgt := 55) dX11_isOfKind_1 (by decide) (by decide) rfl (by decide) ?_
    refine v_aload_n (pc := 55) dX11_isOfKind_55 rfl rfl ?_
    refine v_inst4 (pc := 56) ha h6 cl_X11_315 dX11_isOfKind_56 ?_
    exact v_iret (pc := 59) dX11_isOfKind_59 rfl (v_p_z rfl) (Nat.le_of_ble_eq_true rfl) (Nat.le_of_ble_eq_true rfl) ⟨by first | rfl | exact v_po rfl, rfl⟩
  · refine v_tableIn (pc := 1) (tgt := 60) dX11_isOfKind_1 (by decide) (by decide) rfl (by decide) ?_
    refine v_aload_n (pc := 60) dX11_isOfKind_60 rfl rfl ?_
    refine v_inst5 (pc := 61) ha h6 cl_X11_318 dX11_isOfKind_61 ?_
    exact v_iret (pc := 64) dX11_isOfKind_64 rfl (v_p_z rfl) (Nat.le_of_ble_eq_true rfl) (Nat.le_of_ble_eq_true rfl) ⟨by first | rfl | exact v_po rfl, rfl⟩
  · refine v_tableIn (pc := 1) (tgt := 65) dX11_isOfKind_1 (by decide) (by decide) rfl (by decide) ?_
    refine v_aload_n (pc := 65) dX11_isOfKind_65 rfl rfl ?_
    refine v_inst6 (pc := 66) ha h6 cl_X11_321 dX11_isOfKind_66 ?_
    exact v_iret (pc := 69) dX11_isOfKind_69 rfl (v_p_z rfl) (Nat.le_of_ble_eq_true rfl) (Nat.le_of_ble_eq_true rfl) ⟨by first | rfl | exact v_po rfl, rfl⟩
abbrev rm_X11_taken : Room := { frames := 2, cells := 0, slots := 0, locals := 42 }
set_option maxRecDepth 20000 in
theorem c_X11_taken (G : v_G) (l : Launch) {K : Nat × v_TY} {I : Nat → Nat → Int32} {J : Nat → Nat → Int64} {R : Nat → Nat → Option Nat} (hL : Lay K R) {ii kk : Int32} {b : BS} {hm : Nat} {p : CLS} (hv : CV K I R 1 b hm p) (hf : HF b hm) : v_M G l yX11_taken cX11_taken 4 (some .int) rm_X11_taken [.ref 0, .int ii, .int kk] (K, I, J, R) (v_Qi G (fun (x : Int32) (M' : v_MM) => x = s_taken b ii kk ∧ M' = (K, I, J, R))) := by
  refine v_of [some (.ref 0), some (.int ii), some (.int kk), none] (by decide) (Nat.le_of_ble_eq_true rfl) (Nat.le_of_ble_eq_true rfl) rfl ?_
  have hB := hv.2.1
  have hn6 := hB.1
  have h15 := pr15 hn6
  have he := ve_now (p := p) hB hf
  have hpp : ∀ i, i < b_n b → ∃ a, R (1 + 1) i = some a := fun i hi => by obtain ⟨a, h1, -⟩ := hv.2.2.2.1 i hi; exact ⟨a, h1⟩
  refine v_iload_n (pc := 0) dX11_taken_0 rfl rfl ?_
  refine v_if_lt (pc := 1) (tgt := 10) dX11_taken_1 (by decide) (fun c1 => ?_) (fun c1 => ?_)
  · have e2 : x_nat kk 7 = none := x_nat_n (fun z => (x_n7.mpr z).1 c1)
    refine v_bipush (pc := 10) (v := -2) dX11_taken_10 (by decide) ?_
    exact v_iret (pc := 12) dX11_taken_12 rfl rfl (Nat.le_of_ble_eq_true rfl) (Nat.le_of_ble_eq_true rfl) ⟨by simp only [s_taken, e2], rfl⟩
  · refine v_iload_n (pc := 4) dX11_taken_4 rfl rfl ?_
    refine v_bipush (pc := 5) (v := nI 6) dX11_taken_5 (by decide) ?_
    refine v_icmp_le (pc := 7) (tgt := 13) dX11_taken_7 (by decide) (fun c7 => ?_) (fun c7 => ?_)
    · obtain ⟨k, hk, rfl, e2⟩ := x_nat_i (x_n7.mp ⟨c1, c7⟩) (by decide)
      refine v_aload_n (pc := 13) dX11_taken_13 rfl rfl ?_
      refine v_getH (pc := 14) fg_X11_12_11 dX11_taken_14 (li_0 hL) (lr_0_0 hL) ?_
      refine v_iload_n (pc := 17) dX11_taken_17 rfl rfl ?_
      refine v_cr (pc := 18) (v_rV (c_X9_personAt G l hL (Or.inl rfl) hv.1.1 (by omega) hpp) rfl kV_X11_68 (v_rcO (li_1 hL) rfl (by decide)) ⟨Nat.le_of_ble_eq_true rfl, Nat.le_of_ble_eq_true rfl⟩ ⟨Nat.le_of_ble_eq_true rfl, Nat.le_of_ble_eq_true rfl⟩ dX11_taken_18 (Nat.le_of_ble_eq_true rfl)) (fun x18 M18 h18 => ?_)
      rcases h18 with ⟨e1, rfl, rfl⟩ | ⟨i, a, hi, rfl, e1, ha, rfl, rfl⟩
      · refine v_astore_nN (pc := 21) dX11_taken_21 rfl (by decide) rfl ?_
        refine v_aload_nN (pc := 22) dX11_taken_22 rfl rfl ?_
        refine v_ifnonnull0 (pc := 23) dX11_taken_23 ?_
        refine v_bipush (pc := 26) (v := -11) dX11_taken_26 (by decide) ?_
        exact v_iret (pc := 28) dX11_taken_28 rfl rfl (Nat.le_of_ble_eq_true rfl) (Nat.le_of_ble_eq_true rfl) ⟨by simp only [s_taken, e1, e2], rfl⟩
      · obtain ⟨a2, ha2, hps⟩ := hv.2.2.2.1 i hi
        have : a2 = a := Option.some.inj (ha2.symm.trans ha)
        subst this
        have hk6 : b_k b i ≤ 6 := hB.2.2.1 i
        refine v_astore_n (pc := 21) dX11_taken_21 rfl (by decide) rfl ?_
        refine v_aload_n (pc := 22) dX11_taken_22 rfl rfl ?_
        refine v_ifnonnull (pc := 23) (tgt := 29) dX11_taken_23 (by decide) ?_
        refine v_aload_n (pc := 29) dX11_taken_29 rfl rfl ?_
        refine v_iload_n (pc := 30) dX11_taken_30 rfl rfl ?_
        refine v_ci (pc := 31) (v_rS (c_X11_isOfKind G l hps.2.1 hk6 hk) rfl kS_X11_279 ⟨Nat.le_of_ble_eq_true rfl, Nat.le_of_ble_eq_true rfl⟩ ⟨Nat.le_of_ble_eq_true rfl, Nat.le_of_ble_eq_true rfl⟩ dX11_taken_31 (Nat.le_of_ble_eq_true rfl)) (fun x31 M31 h31 => ?_)
        obtain ⟨rfl, rfl⟩ := h31
        refine v_if_eqP (pc := 34) (tgt := 44) dX11_taken_34 (by decide) (fun c34 => ?_) (fun c34 => ?_)
        · refine v_bipush (pc := 44) (v := -12) dX11_taken_44 (by decide) ?_
          exact v_iret (pc := 46) dX11_taken_46 rfl rfl (Nat.le_of_ble_eq_true rfl) (Nat.le_of_ble_eq_true rfl) ⟨by simp only [s_taken, e1, e2]; first | exact (if_pos c34).symm | exact (if_neg c34).symm, rfl⟩
        · refine v_aload_n (pc := 37) dX11_taken_37 rfl rfl ?_
          refine v_getV (pc := 38) (fg72 (b_k b i)) dX11_taken_38 hps.2.1 hps.2.2.1 ?_
          refine v_goto (pc := 41) (tgt := 46) dX11_taken_41 (by decide) ?_
          exact v_iret (pc := 46) dX11_taken_46 rfl rfl (Nat.le_of_ble_eq_true rfl) (Nat.le_of_ble_eq_true rfl) ⟨by simp only [s_taken, e1, e2]; first | exact (if_pos c34).symm | exact (if_neg c34).symm, rfl⟩
    · have e2 : x_nat kk 7 = none := x_nat_n (fun z => c7 (x_n7.mpr z).2)
      refine v_bipush (pc := 10) (v := -2) dX11_taken_10 (by decide) ?_
      exact v_iret (pc := 12) dX11_taken_12 rfl rfl (Nat.le_of_ble_eq_true rfl) (Nat.le_of_ble_eq_true rfl) ⟨by simp only [s_taken, e2], rfl⟩
abbrev rm_X11_row : Room := { frames := 2, cells := 0, slots := 0, locals := 42 }
set_option maxRecDepth 20000 in
theorem c_X11_row (G : v_G) (l : Launch) {K : Nat × v_TY} {I : Nat → Nat → Int32} {J : Nat → Nat → Int64} {R : Nat → Nat → Option Nat} (hL : Lay K R) {pp jj dd : Int32} {b : BS} {hm : Nat} {p : CLS} (hv : CV K I R 1 b hm p) (hf : HF b hm) : v_M G l yX11_row cX11_row 7 (some .int) rm_X11_row [.ref 0, .int pp, .int jj, .int dd] (K, I, J, R) (v_Qi G (fun (x : Int32) (M' : v_MM) => (((x_nat pp (b_n b) = none ∨ x_nat jj 4 = none) ∧ x = -1 ∧ M' = (K, I, J, R)) ∨ ((∃ i, x_nat pp (b_n b) = some i) ∧ (∃ i, x_nat jj 4 = some i) ∧ x_nat dd 4 = none ∧ x = -2 ∧ M' = (K, I, J, R)) ∨ ((∃ i, x_nat pp (b_n b) = some i ∧ b_k b i ≠ 6) ∧ (∃ i, x_nat jj 4 = some i) ∧ (∃ i, x_nat dd 4 = some i) ∧ x = -3 ∧ M' = (K, I, J, R)) ∨ (∃ i j d, i < b_n b ∧ j < 4 ∧ d < 4 ∧ x_nat pp (b_n b) = some i ∧ x_nat jj 4 = some j ∧ x_nat dd 4 = some d ∧ b_k b i = 6 ∧ x = nI (b_r b (4 * i + j)) ∧ M' = (K, v_u I 4 (4 * i + j) (nI d), J, R))))) := by
  refine v_of [some (.ref 0), some (.int pp), some (.int jj), some (.int dd), none, none, none] (by decide) (Nat.le_of_ble_eq_true rfl) (Nat.le_of_ble_eq_true rfl) rfl ?_
  have hB := hv.2.1
  have hn6 := hB.1
  have h15 := pr15 hn6
  have he := ve_now (p := p) hB hf
  have hpp : ∀ i, i < b_n b → ∃ a, R (1 + 1) i = some a := fun i hi => by obtain ⟨a, h1, -⟩ := hv.2.2.2.1 i hi; exact ⟨a, h1⟩
  refine v_aload_n (pc := 0) dX11_row_0 rfl rfl ?_
  refine v_getH (pc := 1) fg_X11_12_11 dX11_row_1 (li_0 hL) (lr_0_0 hL) ?_
  refine v_iload_n (pc := 4) dX11_row_4 rfl rfl ?_
  refine v_cr (pc := 5) (v_rV (c_X9_personAt G l hL (Or.inl rfl) hv.1.1 (by omega) hpp) rfl kV_X11_68 (v_rcO (li_1 hL) rfl (by decide)) ⟨Nat.le_of_ble_eq_true rfl, Nat.le_of_ble_eq_true rfl⟩ ⟨Nat.le_of_ble_eq_true rfl, Nat.le_of_ble_eq_true rfl⟩ dX11_row_5 (Nat.le_of_ble_eq_true rfl)) (fun x5 M5 h5 => ?_)
  rcases h5 with ⟨e1, rfl, rfl⟩ | ⟨i, a, hi, rfl, e1, ha, rfl, rfl⟩
  · refine v_astoreN (pc := 8) dX11_row_8 (by decide) rfl ?_
    refine v_aloadN (pc := 10) dX11_row_10 rfl ?_
    refine v_ifnull0 (pc := 12) (tgt := 24) dX11_row_12 (by decide) ?_
    refine v_iconst (pc := 24) (v := -1) dX11_row_24 (by decide) ?_
    exact v_iret (pc := 25) dX11_row_25 rfl rfl (Nat.le_of_ble_eq_true rfl) (Nat.le_of_ble_eq_true rfl) (Or.inl ⟨Or.inl e1, rfl, rfl⟩)
  · obtain ⟨a2, ha2, hps⟩ := hv.2.2.2.1 i hi
    have : a2 = a := Option.some.inj (ha2.symm.trans ha)
    subst this
    have hk6 : b_k b i ≤ 6 := hB.2.2.1 i
    refine v_astore (pc := 8) dX11_row_8 (by decide) rfl ?_
    refine v_aload (pc := 10) dX11_row_10 rfl ?_
    refine v_ifnull (pc := 12) dX11_row_12 ?_
    refine v_iload_n (pc := 15) dX11_row_15 rfl rfl ?_
    refine v_if_lt (pc := 16) (tgt := 24) dX11_row_16 (by decide) (fun c16 => ?_) (fun c16 => ?_)
    · have e2 : x_nat jj 4 = none := x_nat_n (fun z => ((v_ltI (n := 4) (by decide)).mpr z).1 c16)
      refine v_iconst (pc := 24) (v := -1) dX11_row_24 (by decide) ?_
      exact v_iret (pc := 25) dX11_row_25 rfl rfl (Nat.le_of_ble_eq_true rfl) (Nat.le_of_ble_eq_true rfl) (by first | exact Or.inl ⟨Or.inr e2, rfl, rfl⟩ | exact Or.inr (Or.inl ⟨⟨_, e1⟩, ⟨_, e2⟩, e3, rfl, rfl⟩) | exact Or.inr (Or.inr (Or.inl ⟨⟨i, e1, c45⟩, ⟨_, e2⟩, ⟨_, e3⟩, rfl, rfl⟩)) | exact Or.inr (Or.inr (Or.inr ⟨i, j, d, hi, hj, hd, e1, e2, e3, c45, by rw [Nat.mul_comm 4 i], by rw [Nat.mul_comm 4 i]⟩)))
    · refine v_iload_n (pc := 19) dX11_row_19 rfl rfl ?_
      refine v_iconst (pc := 20) (v := nI 4) dX11_row_20 (by decide) ?_
      refine v_icmp_lt (pc := 21) (tgt := 26) dX11_row_21 (by decide) (fun c21 => ?_) (fun c21 => ?_)
      · obtain ⟨j, hj, rfl, e2⟩ := x_nat_i ((v_ltI (n := 4) (by decide)).mp ⟨c16, Int32.not_le.mpr c21⟩) (by decide)
        refine v_iload_n (pc := 26) dX11_row_26 rfl rfl ?_
        refine v_if_lt (pc := 27) (tgt := 35) dX11_row_27 (by decide) (fun c27 => ?_) (fun c27 => ?_)
        · have e3 : x_nat dd 4 = none := x_nat_n (fun z => ((x_lim (n := 3) (by decide)).mpr z).1 c27)
          refine v_bipush (pc := 35) (v := -2) dX11_row_35 (by decide) ?_
          exact v_iret (pc := 37) dX11_row_37 rfl rfl (Nat.le_of_ble_eq_true rfl) (Nat.le_of_ble_eq_true rfl) (by first | exact Or.inl ⟨Or.inr e2, rfl, rfl⟩ | exact Or.inr (Or.inl ⟨⟨_, e1⟩, ⟨_, e2⟩, e3, rfl, rfl⟩) | exact Or.inr (Or.inr (Or.inl ⟨⟨i, e1, c45⟩, ⟨_, e2⟩, ⟨_, e3⟩, rfl, rfl⟩)) | exact Or.inr (Or.inr (Or.inr ⟨i, j, d, hi, hj, hd, e1, e2, e3, c45, by rw [Nat.mul_comm 4 i], by rw [Nat.mul_comm 4 i]⟩)))
        · refine v_iload_n (pc := 30) dX11_row_30 rfl rfl ?_
          refine v_iconst (pc := 31) (v := nI 3) dX11_row_31 (by decide) ?_
          refine v_icmp_le (pc := 32) (tgt := 38) dX11_row_32 (by decide) (fun c32 => ?_) (fun c32 => ?_)
          · obtain ⟨d, hd, rfl, e3⟩ := x_nat_i ((x_lim (n := 3) (by decide)).mp ⟨c27, c32⟩) (by decide)
            refine v_aload (pc := 38) dX11_row_38 rfl ?_
            refine v_getV (pc := 40) (fg72 (b_k b i)) dX11_row_40 hps.2.1 hps.2.2.1 ?_
            refine v_bipush (pc := 43) (v := nI 6) dX11_row_43 (by decide) ?_
            refine v_icmp_eqN (pc := 45) (tgt := 51) ⟨by omega, by omega⟩ dX11_row_45 (by decide) (fun c45 => ?_) (fun c45 => ?_)
            · refine v_iload_n (pc := 51) dX11_row_51 rfl rfl ?_
              refine v_iconst (pc := 52) (v := nI 4) dX11_row_52 (by decide) ?_
              refine v_imulN (pc := 53) dX11_row_53 ?_
              refine v_iload_n (pc := 54) dX11_row_54 rfl rfl ?_
              refine v_iaddN (pc := 55) dX11_row_55 ?_
              refine v_istore (pc := 56) dX11_row_56 (by decide) rfl ?_
              refine v_aload_n (pc := 58) dX11_row_58 rfl rfl ?_
              refine v_getH (pc := 59) fg_X11_12_11 dX11_row_59 (li_0 hL) (lr_0_0 hL) ?_
              refine v_getH (pc := 62) fg_X11_140_9 dX11_row_62 (li_1 hL) (lr_1_6 hL) ?_
              refine v_iload (pc := 65) dX11_row_65 rfl ?_
              refine v_ialoadN (pc := 67) dX11_row_67 (li_4 hL) ⟨by omega, by omega⟩ (hv.1.2.2.2.2 (i * 4 + j) (by omega)) ?_
              refine v_istore (pc := 68) dX11_row_68 (by decide) rfl ?_
              refine v_aload_n (pc := 70) dX11_row_70 rfl rfl ?_
              refine v_getH (pc := 71) fg_X11_12_11 dX11_row_71 (li_0 hL) (lr_0_0 hL) ?_
              refine v_getH (pc := 74) fg_X11_140_9 dX11_row_74 (li_1 hL) (lr_1_6 hL) ?_
              refine v_iload (pc := 77) dX11_row_77 rfl ?_
              refine v_iload_n (pc := 79) dX11_row_79 rfl rfl ?_
              refine v_iastoreN (pc := 80) dX11_row_80 (li_4 hL) ⟨by omega, by omega⟩ ?_
              refine v_iload (pc := 81) dX11_row_81 rfl ?_
              exact v_iret (pc := 83) dX11_row_83 rfl rfl (Nat.le_of_ble_eq_true rfl) (Nat.le_of_ble_eq_true rfl) (by first | exact Or.inl ⟨Or.inr e2, rfl, rfl⟩ | exact Or.inr (Or.inl ⟨⟨_, e1⟩, ⟨_, e2⟩, e3, rfl, rfl⟩) | exact Or.inr (Or.inr (Or.inl ⟨⟨i, e1, c45⟩, ⟨_, e2⟩, ⟨_, e3⟩, rfl, rfl⟩)) | exact Or.inr (Or.inr (Or.inr ⟨i, j, d, hi, hj, hd, e1, e2, e3, c45, by rw [Nat.mul_comm 4 i], by rw [Nat.mul_comm 4 i]⟩)))
            · refine v_bipush (pc := 48) (v := -3) dX11_row_48 (by decide) ?_
              exact v_iret (pc := 50) dX11_row_50 rfl rfl (Nat.le_of_ble_eq_true rfl) (Nat.le_of_ble_eq_true rfl) (by first | exact Or.inl ⟨Or.inr e2, rfl, rfl⟩ | exact Or.inr (Or.inl ⟨⟨_, e1⟩, ⟨_, e2⟩, e3, rfl, rfl⟩) | exact Or.inr (Or.inr (Or.inl ⟨⟨i, e1, c45⟩, ⟨_, e2⟩, ⟨_, e3⟩, rfl, rfl⟩)) | exact Or.inr (Or.inr (Or.inr ⟨i, j, d, hi, hj, hd, e1, e2, e3, c45, by rw [Nat.mul_comm 4 i], by rw [Nat.mul_comm 4 i]⟩)))
          · have e3 : x_nat dd 4 = none := x_nat_n (fun z => c32 ((x_lim (n := 3) (by decide)).mpr z).2)
            refine v_bipush (pc := 35) (v := -2) dX11_row_35 (by decide) ?_
            exact v_iret (pc := 37) dX11_row_37 rfl rfl (Nat.le_of_ble_eq_true rfl) (Nat.le_of_ble_eq_true rfl) (by first | exact Or.inl ⟨Or.inr e2, rfl, rfl⟩ | exact Or.inr (Or.inl ⟨⟨_, e1⟩, ⟨_, e2⟩, e3, rfl, rfl⟩) | exact Or.inr (Or.inr (Or.inl ⟨⟨i, e1, c45⟩, ⟨_, e2⟩, ⟨_, e3⟩, rfl, rfl⟩)) | exact Or.inr (Or.inr (Or.inr ⟨i, j, d, hi, hj, hd, e1, e2, e3, c45, by rw [Nat.mul_comm 4 i], by rw [Nat.mul_comm 4 i]⟩)))
      · have e2 : x_nat jj 4 = none := x_nat_n (fun z => c21 (Int32.not_le.mp ((v_ltI (n := 4) (by decide)).mpr z).2))
        refine v_iconst (pc := 24) (v := -1) dX11_row_24 (by decide) ?_
        exact v_iret (pc := 25) dX11_row_25 rfl rfl (Nat.le_of_ble_eq_true rfl) (Nat.le_of_ble_eq_true rfl) (by first | exact Or.inl ⟨Or.inr e2, rfl, rfl⟩ | exact Or.inr (Or.inl ⟨⟨_, e1⟩, ⟨_, e2⟩, e3, rfl, rfl⟩) | exact Or.inr (Or.inr (Or.inl ⟨⟨i, e1, c45⟩, ⟨_, e2⟩, ⟨_, e3⟩, rfl, rfl⟩)) | exact Or.inr (Or.inr (Or.inr ⟨i, j, d, hi, hj, hd, e1, e2, e3, c45, by rw [Nat.mul_comm 4 i], by rw [Nat.mul_comm 4 i]⟩)))
abbrev rm_X11_feed : Room := { frames := 0, cells := 0, slots := 0, locals := 0 }
set_option maxRecDepth 20000 in
theorem c_X11_feed (G : v_G) (l : Launch) {K : Nat × v_TY} {I : Nat → Nat → Int32} {J : Nat → Nat → Int64} {R : Nat → Nat → Option Nat} (hL : Lay K R) {ss : Int32} {f : Nat} (h : I 0 7 = nI f) (hf : f ≤ 100) : v_M G l yX11_feed cX11_feed 2 (some .int) rm_X11_feed [.ref 0, .int ss] (K, I, J, R) (v_Qi G (fun (x : Int32) (M' : v_MM) => ((x_nat ss 128 = none ∧ x = -2 ∧ M' = (K, I, J, R)) ∨ ((∃ s, s < 128 ∧ x_nat ss 128 = some s) ∧ f = 100 ∧ x = -4 ∧ M' = (K, I, J, R)) ∨ (∃ s, s < 128 ∧ ss = nI s ∧ x_nat ss 128 = some s ∧ f < 100 ∧ x = nI (f + 1) ∧ M' = (K, v_u (v_u I 37 f (nI s)) 0 7 (nI (f + 1)), J, R))))) := by
  refine v_of [some (.ref 0), some (.int ss)] (by decide) (Nat.le_of_ble_eq_true rfl) (Nat.le_of_ble_eq_true rfl) rfl ?_
  refine v_iload_n (pc := 0) dX11_feed_0 rfl rfl ?_
  refine v_if_lt (pc := 1) (tgt := 10) dX11_feed_1 (by decide) (fun c1 => ?_) (fun c1 => ?_)
  · have e2 : x_nat ss 128 = none := x_nat_n (fun z => ((x_lim (n := 127) (by decide)).mpr z).1 c1)
    refine v_bipush (pc := 10) (v := -2) dX11_feed_10 (by decide) ?_
    exact v_iret (pc := 12) dX11_feed_12 rfl rfl (Nat.le_of_ble_eq_true rfl) (Nat.le_of_ble_eq_true rfl) (by first | exact Or.inl ⟨e2, rfl, rfl⟩ | exact Or.inr (Or.inl ⟨⟨s, hs, e2⟩, by omega, rfl, rfl⟩) | exact Or.inr (Or.inr ⟨s, hs, rfl, e2, by omega, rfl, rfl⟩))
  · refine v_iload_n (pc := 4) dX11_feed_4 rfl rfl ?_
    refine v_bipush (pc := 5) (v := nI 127) dX11_feed_5 (by decide) ?_
    refine v_icmp_le (pc := 7) (tgt := 13) dX11_feed_7 (by decide) (fun c7 => ?_) (fun c7 => ?_)
    · obtain ⟨s, hs, rfl, e2⟩ := x_nat_i ((x_lim (n := 127) (by decide)).mp ⟨c1, c7⟩) (by decide)
      refine v_aload_n (pc := 13) dX11_feed_13 rfl rfl ?_
      refine v_getV (pc := 14) fg_X11_143_11 dX11_feed_14 (li_0 hL) h ?_
      refine v_bipush (pc := 17) (v := nI 100) dX11_feed_17 (by decide) ?_
      refine v_icmp_ltN (pc := 19) (tgt := 25) ⟨by omega, by omega⟩ dX11_feed_19 (by decide) (fun c19 => ?_) (fun c19 => ?_)
      · refine v_aload_n (pc := 25) dX11_feed_25 rfl rfl ?_
        refine v_getH (pc := 26) fg_X11_31_11 dX11_feed_26 (li_0 hL) (lr_0_6 hL) ?_
        refine v_aload_n (pc := 29) dX11_feed_29 rfl rfl ?_
        refine v_getV (pc := 30) fg_X11_143_11 dX11_feed_30 (li_0 hL) h ?_
        refine v_iload_n (pc := 33) dX11_feed_33 rfl rfl ?_
        refine v_i2b (pc := 34) dX11_feed_34 ?_
        refine v_bastoreN (pc := 35) dX11_feed_35 (li_37 hL) ⟨by omega, by omega⟩ ?_
        rw [b_i8 s hs]
        refine v_aload_n (pc := 36) dX11_feed_36 rfl rfl ?_
        refine v_dup (pc := 37) dX11_feed_37 rfl ?_
        refine v_getV (pc := 38) fg_X11_143_11 dX11_feed_38 (li_0 hL) ((v_u_h (by decide)).trans h) ?_
        refine v_iconst (pc := 41) (v := nI 1) dX11_feed_41 (by decide) ?_
        refine v_iaddN (pc := 42) dX11_feed_42 ?_
        refine v_putI (pc := 43) pg_X11_143_11 (fun h => by cases h) dX11_feed_43 (li_0 hL) rfl rfl ?_
        refine v_aload_n (pc := 46) dX11_feed_46 rfl rfl ?_
        refine v_getV (pc := 47) fg_X11_143_11 dX11_feed_47 (li_0 hL) v_u_same ?_
        exact v_iret (pc := 50) dX11_feed_50 rfl rfl (Nat.le_of_ble_eq_true rfl) (Nat.le_of_ble_eq_true rfl) (by first | exact Or.inl ⟨e2, rfl, rfl⟩ | exact Or.inr (Or.inl ⟨⟨s, hs, e2⟩, by omega, rfl, rfl⟩) | exact Or.inr (Or.inr ⟨s, hs, rfl, e2, by omega, rfl, rfl⟩))
      · refine v_bipush (pc := 22) (v := -4) dX11_feed_22 (by decide) ?_
        exact v_iret (pc := 24) dX11_feed_24 rfl rfl (Nat.le_of_ble_eq_true rfl) (Nat.le_of_ble_eq_true rfl) (by first | exact Or.inl ⟨e2, rfl, rfl⟩ | exact Or.inr (Or.inl ⟨⟨s, hs, e2⟩, by omega, rfl, rfl⟩) | exact Or.inr (Or.inr ⟨s, hs, rfl, e2, by omega, rfl, rfl⟩))
    · have e2 : x_nat ss 128 = none := x_nat_n (fun z => c7 ((x_lim (n := 127) (by decide)).mpr z).2)
      refine v_bipush (pc := 10) (v := -2) dX11_feed_10 (by decide) ?_
      exact v_iret (pc := 12) dX11_feed_12 rfl rfl (Nat.le_of_ble_eq_true rfl) (Nat.le_of_ble_eq_true rfl) (by first | exact Or.inl ⟨e2, rfl, rfl⟩ | exact Or.inr (Or.inl ⟨⟨s, hs, e2⟩, by omega, rfl, rfl⟩) | exact Or.inr (Or.inr ⟨s, hs, rfl, e2, by omega, rfl, rfl⟩))
abbrev rm_X11_image : Room := { frames := 2, cells := 0, slots := 0, locals := 81 }
set_option maxRecDepth 20000 in
theorem c_X11_image (G : v_G) (l : Launch) {K : Nat × v_TY} {I : Nat → Nat → Int32} {J : Nat → Nat → Int64} {R : Nat → Nat → Option Nat} (hL : Lay K R) {n : Nat} (hn : I 1 0 = nI n) (hA : CPA K R 1) : v_M G l yX11_image cX11_image 1 (some .int) rm_X11_image [.ref 0] (K, I, J, R) (v_Qi G (fun (x : Int32) (M' : v_MM) => x = nI n ∧ M' = (K, v_u (beA I 11 1) 0 3 (nI 1), J, beR R 11 1))) := by
  refine v_of [some (.ref 0)] (by decide) (Nat.le_of_ble_eq_true rfl) (Nat.le_of_ble_eq_true rfl) rfl ?_
  refine v_aload_n (pc := 0) dX11_image_0 rfl rfl ?_
  refine v_getH (pc := 1) fg_X11_18_11 dX11_image_1 (li_0 hL) (lr_0_1 hL) ?_
  refine v_aload_n (pc := 4) dX11_image_4 rfl rfl ?_
  refine v_getH (pc := 5) fg_X11_12_11 dX11_image_5 (li_0 hL) (lr_0_0 hL) ?_
  refine v_cv (pc := 8) (v_rV (c_X9_become G l hL (Or.inr (Or.inl rfl)) (Or.inl rfl) (by decide) hA) rfl kV_X11_177 (v_rcO (li_11 hL) rfl (by decide)) ⟨Nat.le_of_ble_eq_true rfl, Nat.le_of_ble_eq_true rfl⟩ ⟨Nat.le_of_ble_eq_true rfl, Nat.le_of_ble_eq_true rfl⟩ dX11_image_8 (Nat.le_of_ble_eq_true rfl)) (fun M8 h8 => ?_)
  subst h8
  have hLb := Lay_be (g := 1) hL (Or.inr (Or.inl rfl))
  have hbe := (BE_of (I := I) (R := R) (Or.inr (Or.inl rfl)) (Or.inl rfl) (show 1 ≠ 11 by decide)).2.2.2.1
  have hL := hLb
  refine v_aload_n (pc := 11) dX11_image_11 rfl rfl ?_
  refine v_iconst (pc := 12) (v := nI 1) dX11_image_12 (by decide) ?_
  refine v_putI (pc := 13) pg_X11_259_11 (fun h => by cases h) dX11_image_13 (li_0 hL) rfl rfl ?_
  refine v_aload_n (pc := 16) dX11_image_16 rfl rfl ?_
  refine v_getH (pc := 17) fg_X11_12_11 dX11_image_17 (li_0 hL) (lr_0_0 hL) ?_
  refine v_getV (pc := 20) fg_X11_56_9 dX11_image_20 (li_1 hL) ((v_u_h (by decide)).trans ((hbe 1 0 (by decide)).trans hn)) ?_
  exact v_iret (pc := 23) dX11_image_23 rfl rfl (Nat.le_of_ble_eq_true rfl) (Nat.le_of_ble_eq_true rfl) ⟨rfl, rfl⟩
abbrev rm_X11_undo : Room := { frames := 2, cells := 0, slots := 0, locals := 81 }
set_option maxRecDepth 20000 in
theorem c_X11_undo (G : v_G) (l : Launch) {K : Nat × v_TY} {I : Nat → Nat → Int32} {J : Nat → Nat → Int64} {R : Nat → Nat → Option Nat} (hL : Lay K R) {im : Bool} {n : Nat} (hi : I 0 3 = v_p (im = true)) (hn : I 11 0 = nI n) (hA : CPA K R 11) : v_M G l yX11_undo cX11_undo 1 (some .int) rm_X11_undo [.ref 0] (K, I, J, R) (v_Qi G (fun (x : Int32) (M' : v_MM) => ((im = false ∧ x = -3 ∧ M' = (K, I, J, R)) ∨ (im = true ∧ x = nI n ∧ M' = (K, beA I 1 11, J, beR R 1 11))))) := by
  refine v_of [some (.ref 0)] (by decide) (Nat.le_of_ble_eq_true rfl) (Nat.le_of_ble_eq_true rfl) rfl ?_
  refine v_aload_n (pc := 0) dX11_undo_0 rfl rfl ?_
  refine v_getV (pc := 1) fg_X11_259_11 dX11_undo_1 (li_0 hL) hi ?_
  refine v_if_neP (pc := 4) (tgt := 10) dX11_undo_4 (by decide) (fun c4 => ?_) (fun c4 => ?_)
  · refine v_aload_n (pc := 10) dX11_undo_10 rfl rfl ?_
    refine v_getH (pc := 11) fg_X11_12_11 dX11_undo_11 (li_0 hL) (lr_0_0 hL) ?_
    refine v_aload_n (pc := 14) dX11_undo_14 rfl rfl ?_
    refine v_getH (pc := 15) fg_X11_18_11 dX11_undo_15 (li_0 hL) (lr_0_1 hL) ?_
    refine v_cv (pc := 18) (v_rV (c_X9_become G l hL (Or.inl rfl) (Or.inr (Or.inl rfl)) (by decide) hA) rfl kV_X11_177 (v_rcO (li_1 hL) rfl (by decide)) ⟨Nat.le_of_ble_eq_true rfl, Nat.le_of_ble_eq_true rfl⟩ ⟨Nat.le_of_ble_eq_true rfl, Nat.le_of_ble_eq_true rfl⟩ dX11_undo_18 (Nat.le_of_ble_eq_true rfl)) (fun M18 h18 => ?_)
    subst h18
    have hLb := Lay_be (g := 11) hL (Or.inl rfl)
    have hbe := (BE_of (I := I) (R := R) (Or.inl rfl) (Or.inr (Or.inl rfl)) (show 11 ≠ 1 by decide)).1.1
    have hL := hLb
    refine v_aload_n (pc := 21) dX11_undo_21 rfl rfl ?_
    refine v_getH (pc := 22) fg_X11_12_11 dX11_undo_22 (li_0 hL) (lr_0_0 hL) ?_
    refine v_getV (pc := 25) fg_X11_56_9 dX11_undo_25 (li_1 hL) (hbe.trans hn) ?_
    exact v_iret (pc := 28) dX11_undo_28 rfl rfl (Nat.le_of_ble_eq_true rfl) (Nat.le_of_ble_eq_true rfl) (by first | exact Or.inl ⟨by simpa using c4, rfl, rfl⟩ | exact Or.inr ⟨c4, rfl, rfl⟩)
  · refine v_bipush (pc := 7) (v := -3) dX11_undo_7 (by decide) ?_
    exact v_iret (pc := 9) dX11_undo_9 rfl rfl (Nat.le_of_ble_eq_true rfl) (Nat.le_of_ble_eq_true rfl) (by first | exact Or.inl ⟨by simpa using c4, rfl, rfl⟩ | exact Or.inr ⟨c4, rfl, rfl⟩)
