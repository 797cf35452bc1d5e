/-! THE CLASS: a village becomes another; one joins, one leaves; plain laws -/
section CPROWS
variable {G : v_G} {l : Launch} {y : MethodName} {cc : ByteArray} {nL : Nat} {rt : Option FieldType} {Z : Room} {Qc : Array Value → State → Outcome → State → Prop} {cells slots pc : Nat} {lv : List (Option Value)} {st : List Value}
variable {K : Nat × v_TY} {I : Nat → Nat → Int32} {J : Nat → Nat → Int64} {R : Nat → Nat → Option Nat} {n : Nat}
def v_tr (R : Nat → Nat → Option Nat) (h : Nat) (f : Nat → Option Nat) (n : Nat) : Nat → Nat → Option Nat := fun a b => if a = h ∧ b < n then f b else R a b
theorem v_cpI {idx h0 h1 : Nat} (hw : v_cA y.cls idx) (i0 : v_is K h0 14 n) (i1 : v_is K h1 14 n) (hn : n < 1000) (hf : 1 ≤ Z.frames) (hz : (st.map fun v => v.category).sum + (nativeFrameWords "java/lang/System" "arraycopy" 5 + 11) ≤ Z.locals) (hd : decode cc pc = .ok (.invokestatic idx, 3))
    (kk : v_V G l y cc nL rt Z Qc cells slots (pc + 3) lv st (K, v_to I h1 (fun z => I h0 z) n, J, R)) : v_V G l y cc nL rt Z Qc cells slots pc lv (.int (nI n) :: .int (nI 0) :: .ref h1 :: .int (nI 0) :: .ref h0 :: st) (K, I, J, R) := by
  have e0 : (nI 0).toNatClampNeg = 0 := nI_clamp (by decide)
  have en : (nI n).toNatClampNeg = n := nI_clamp (by omega)
  have nn : ¬ nI n < 0 := by
    rw [Int32.lt_iff_toInt_lt, nI_toInt (by omega)]
    have e : (0 : Int32).toInt = 0 := rfl
    rw [e]; omega
  refine v_copyI (kd := 14) (ty := .int) hw (Or.inr ⟨rfl, rfl⟩) i0 i1 (by decide) (by decide) nn (by rw [e0, en]; omega) (by rw [e0, en]; omega) (fun i _ => rfl) hf hz hd ?_
  rw [e0, en]
  have e : v_cp I h0 h1 0 0 n = v_to I h1 (fun z => I h0 z) n := by
    funext a b
    unfold v_cp v_to va_cpy
    by_cases ha : a = h1
    · subst ha
      by_cases hb : b < n
      · rw [if_pos rfl, if_pos (by omega), if_pos ⟨rfl, hb⟩]; simp
      · rw [if_pos rfl, if_neg (by omega), if_neg (by omega)]
    · rw [if_neg ha, if_neg (fun z => ha z.1)]
  rw [e]; exact kk
theorem v_cpR {idx h0 h1 : Nat} (hw : v_cA y.cls idx) (i0 : v_is K h0 17 n) (i1 : v_is K h1 17 n) (hn : n < 1000) (hel : ∀ i v : Nat, i < n → R h0 i = some v → ∃ ci nv, v_is K v ci nv ∧ v_cst ci "OneFriend$Person") (hf : 1 ≤ Z.frames) (hz : (st.map fun v => v.category).sum + (nativeFrameWords "java/lang/System" "arraycopy" 5 + 11) ≤ Z.locals) (hd : decode cc pc = .ok (.invokestatic idx, 3))
    (kk : v_V G l y cc nL rt Z Qc cells slots (pc + 3) lv st (K, I, J, v_tr R h1 (fun z => R h0 z) n)) : v_V G l y cc nL rt Z Qc cells slots pc lv (.int (nI n) :: .int (nI 0) :: .ref h1 :: .int (nI 0) :: .ref h0 :: st) (K, I, J, R) := by
  have e0 : (nI 0).toNatClampNeg = 0 := nI_clamp (by decide)
  have en : (nI n).toNatClampNeg = n := nI_clamp (by omega)
  have nn : ¬ nI n < 0 := by
    rw [Int32.lt_iff_toInt_lt, nI_toInt (by omega)]
    have e : (0 : Int32).toInt = 0 := rfl
    rw [e]; omega
  refine v_copyR (kd := 17) (E := "OneFriend$Person") hw (Or.inl ⟨rfl, rfl⟩) i0 i1 (by decide) (by decide) nn (by rw [e0, en]; omega) (by rw [e0, en]; omega) (fun i v hi hv => hel i v (by rw [en] at hi; exact hi) (by rw [e0, Nat.zero_add] at hv; exact hv)) hf hz hd ?_
  rw [e0, en]
  have e : v_cp R h0 h1 0 0 n = v_tr R h1 (fun z => R h0 z) n := by
    funext a b
    unfold v_cp v_tr va_cpy
    by_cases ha : a = h1
    · subst ha
      by_cases hb : b < n
      · rw [if_pos rfl, if_pos (by omega), if_pos ⟨rfl, hb⟩]; simp
      · rw [if_pos rfl, if_neg (by omega), if_neg (by omega)]
    · rw [if_neg ha, if_neg (fun z => ha z.1)]
  rw [e]; exact kk
theorem v_aastP {h j ci a : Nat} (hd : decode cc pc = .ok (.aastore, 1)) (hi : v_is K h 17 n) (hj : j < n ∧ n < 2 ^ 31) (hv : v_is K a ci 0) (hc : v_cst ci "OneFriend$Person") (kk : v_V G l y cc nL rt Z Qc cells slots (pc + 1) lv st (K, I, J, v_u R h j (some a))) : v_V G l y cc nL rt Z Qc cells slots pc lv (.ref a :: .int (nI j) :: .ref h :: st) (K, I, J, R) := by
  obtain ⟨q, h1, h2, h3⟩ := hc
  exact v_aastore (t0 := 4) hd hi (Or.inl rfl) rfl (vp_in_nI hj.1 hj.2) hv h2 h1 h3 (by rw [nI_clamp (Nat.lt_trans hj.1 hj.2)]; exact kk)
end CPROWS
theorem p_cst : ∀ k, v_cst (p_ci k) "OneFriend$Person"
  | 0 => ⟨_, rfl, by decide, Or.inl rfl⟩
  | 1 => ⟨_, rfl, by decide, Or.inr cs_10_2⟩
  | 2 => ⟨_, rfl, by decide, Or.inr cs_3_2⟩
  | 3 => ⟨_, rfl, by decide, Or.inr cs_1_2⟩
  | 4 => ⟨_, rfl, by decide, Or.inr cs_0_2⟩
  | 5 => ⟨_, rfl, by decide, Or.inr cs_4_2⟩
  | n + 6 => ⟨_, rfl, (show 6 < 13 by decide), Or.inr cs_6_2⟩
theorem Lay_1 {K : Nat × v_TY} {R : Nat → Nat → Option Nat} {h n : Nat} {r : Option Nat} (hL : Lay K R) (hh : v_3 h) : Lay K (v_u R (h + 1) n r) := by
  have hne : ∀ q ∈ v_layR, q.1 ≠ h + 1 := by rcases hh with rfl | rfl | rfl <;> decide
  exact ⟨hL.1, fun q hq => (v_u_g (fun e => hne q hq e.1)).trans (hL.2 q hq)⟩
theorem fit_rf {nm : String} : ∀ {r : Option Nat}, fits (.object nm) (va_rf r) = true
  | none => rfl
  | some _ => rfl
/-- who lies in the array of people -/
def CPA (K : Nat × v_TY) (R : Nat → Nat → Option Nat) (h : Nat) : Prop := ∀ i, i < 6 → ∀ a, R (h + 1) i = some a → 91 ≤ a ∧ ∃ ci, v_is K a ci 0 ∧ v_cst ci "OneFriend$Person"
def be5 (I : Nat → Nat → Int32) (h g : Nat) : Nat → Nat → Int32 :=
  let I1 := v_u I h 0 (I g 0)
  let I2 := v_u I1 h 1 (I1 g 1)
  let I3 := v_u I2 h 2 (I2 g 2)
  let I4 := v_u I3 h 8 (I3 g 8)
  v_u I4 h 11 (I4 g 11)
def beA (I : Nat → Nat → Int32) (h g : Nat) : Nat → Nat → Int32 :=
  let I5 := be5 I h g
  let I6 := v_to I5 (h + 2) (fun z => I5 (g + 2) z) 6
  let I7 := v_to I6 (h + 3) (fun z => I6 (g + 3) z) 24
  let I8 := v_to I7 (h + 4) (fun z => I7 (g + 4) z) 6
  let I9 := v_to I8 (h + 5) (fun z => I8 (g + 5) z) 6
  let I10 := v_to I9 (h + 6) (fun z => I9 (g + 6) z) 6
  let I11 := v_to I10 (h + 7) (fun z => I10 (g + 7) z) 12
  v_to I11 (h + 8) (fun z => I11 (g + 8) z) 12
def beR (R : Nat → Nat → Option Nat) (h g : Nat) : Nat → Nat → Option Nat :=
  let R1 := v_u R h 3 (R g 3)
  v_tr R1 (h + 1) (fun z => R1 (g + 1) z) 6
abbrev rm_X9_become : Room := { frames := 1, cells := 0, slots := 0, locals := 60 }
set_option maxRecDepth 20000 in
theorem c_X9_become (G : v_G) (l : Launch) {K : Nat × v_TY} {I : Nat → Nat → Int32} {J : Nat → Nat → Int64} {R : Nat → Nat → Option Nat} (hL : Lay K R) {h : Nat} (hh : v_3 h) {g : Nat} (hg : v_3 g) (hgh : g ≠ h) (hA : CPA K R g) : v_M G l yX9_become cX9_become 2 none rm_X9_become [.ref h, .ref g] (K, I, J, R) (v_Qv G (fun (M' : v_MM) => M' = (K, beA I h g, J, beR R h g))) := by
  refine v_of [some (.ref h), some (.ref g)] (by decide) (Nat.le_of_ble_eq_true rfl) (Nat.le_of_ble_eq_true rfl) rfl ?_
  have hV := VH_of hL hh
  have hW := VH_of hL hg
  have hL1 : ∀ r : Option Nat, Lay K (v_u R h 3 r) := fun r => ⟨hL.1, fun q hq => (v_u_g (fun e => by rcases hh with rfl | rfl | rfl <;> (revert q; decide))).trans (hL.2 q hq)⟩
  have hel : ∀ i v : Nat, i < 6 → v_u R h 3 (R g 3) (g + 1) i = some v → ∃ ci nv, v_is K v ci nv ∧ v_cst ci "OneFriend$Person" := fun i v hi hv => by
    rw [v_u_h (by rcases hh with rfl | rfl | rfl <;> rcases hg with rfl | rfl | rfl <;> omega)] at hv
    obtain ⟨-, ci, h1, h2⟩ := hA i hi v hv
    exact ⟨ci, 0, h1, h2⟩
  refine v_aload_n (pc := 0) dX9_become_0 rfl rfl ?_
  refine v_aload_n (pc := 1) dX9_become_1 rfl rfl ?_
  refine v_getI (pc := 2) fg_X9_52_9 dX9_become_2 hW.1 ?_
  refine v_putI (pc := 5) pg_X9_52_9 (fun h => by cases h) dX9_become_5 hV.1 rfl rfl ?_
  refine v_aload_n (pc := 8) dX9_become_8 rfl rfl ?_
  refine v_aload_n (pc := 9) dX9_become_9 rfl rfl ?_
  refine v_getI (pc := 10) fg_X9_56_9 dX9_become_10 hW.1 ?_
  refine v_putI (pc := 13) pg_X9_56_9 (fun h => by cases h) dX9_become_13 hV.1 rfl rfl ?_
  refine v_aload_n (pc := 16) dX9_become_16 rfl rfl ?_
  refine v_aload_n (pc := 17) dX9_become_17 rfl rfl ?_
  refine v_getI (pc := 18) fg_X9_59_9 dX9_become_18 hW.1 ?_
  refine v_putI (pc := 21) pg_X9_59_9 (fun h => by cases h) dX9_become_21 hV.1 rfl rfl ?_
  refine v_aload_n (pc := 24) dX9_become_24 rfl rfl ?_
  refine v_aload_n (pc := 25) dX9_become_25 rfl rfl ?_
  refine v_getR (pc := 26) (r := R g 3) fg_X9_62_9 dX9_become_26 hW.1 rfl ?_
  refine v_putR (pc := 29) (r := R g 3) pg_X9_62_9 (fun h => by cases h) dX9_become_29 hV.1 (fun _ => rfl) (by cases R g 3 <;> rfl) ?_
  have hV := VH_of (hL1 (R g 3)) hh
  have hW := VH_of (hL1 (R g 3)) hg
  refine v_aload_n (pc := 32) dX9_become_32 rfl rfl ?_
  refine v_aload_n (pc := 33) dX9_become_33 rfl rfl ?_
  refine v_getI (pc := 34) fg_X9_66_9 dX9_become_34 hW.1 ?_
  refine v_putI (pc := 37) pg_X9_66_9 (fun h => by cases h) dX9_become_37 hV.1 rfl rfl ?_
  refine v_aload_n (pc := 40) dX9_become_40 rfl rfl ?_
  refine v_aload_n (pc := 41) dX9_become_41 rfl rfl ?_
  refine v_getI (pc := 42) fg_X9_69_9 dX9_become_42 hW.1 ?_
  refine v_putI (pc := 45) pg_X9_69_9 (fun h => by cases h) dX9_become_45 hV.1 rfl rfl ?_
  refine v_aload_n (pc := 48) dX9_become_48 rfl rfl ?_
  refine v_getH (pc := 49) fg_X9_11_9 dX9_become_49 hW.1 hW.2.2.1 ?_
  refine v_iconst (pc := 52) (v := nI 0) dX9_become_52 (by decide) ?_
  refine v_aload_n (pc := 53) dX9_become_53 rfl rfl ?_
  refine v_getH (pc := 54) fg_X9_11_9 dX9_become_54 hV.1 hV.2.2.1 ?_
  refine v_iconst (pc := 57) (v := nI 0) dX9_become_57 (by decide) ?_
  refine v_bipush (pc := 58) (v := nI 6) dX9_become_58 (by decide) ?_
  refine v_cpR (pc := 60) (n := 6) kA_X9_72 hW.2.1.1 hV.2.1.1 (by decide) hel (Nat.le_of_ble_eq_true rfl) (Nat.le_of_ble_eq_true rfl) dX9_become_60 ?_
  have hL2 : Lay K (beR R h g) := ⟨hL.1, fun q hq => by
    have e : ¬ (q.1 = h + 1 ∧ q.2.1 < 6) := by rcases hh with rfl | rfl | rfl <;> (revert q; decide)
    exact (if_neg e).trans ((hL1 (R g 3)).2 q hq)⟩
  have hV := VH_of hL2 hh
  have hW := VH_of hL2 hg
  refine v_aload_n (pc := 63) dX9_become_63 rfl rfl ?_
  refine v_getH (pc := 64) fg_X9_17_9 dX9_become_64 hW.1 hW.2.2.2.1 ?_
  refine v_iconst (pc := 67) (v := nI 0) dX9_become_67 (by decide) ?_
  refine v_aload_n (pc := 68) dX9_become_68 rfl rfl ?_
  refine v_getH (pc := 69) fg_X9_17_9 dX9_become_69 hV.1 hV.2.2.2.1 ?_
  refine v_iconst (pc := 72) (v := nI 0) dX9_become_72 (by decide) ?_
  refine v_bipush (pc := 73) (v := nI 6) dX9_become_73 (by decide) ?_
  refine v_cpI (pc := 75) (n := 6) kA_X9_72 hW.2.1.2.1 hV.2.1.2.1 (by decide) (Nat.le_of_ble_eq_true rfl) (Nat.le_of_ble_eq_true rfl) dX9_become_75 ?_
  refine v_aload_n (pc := 78) dX9_become_78 rfl rfl ?_
  refine v_getH (pc := 79) fg_X9_21_9 dX9_become_79 hW.1 hW.2.2.2.2.1 ?_
  refine v_iconst (pc := 82) (v := nI 0) dX9_become_82 (by decide) ?_
  refine v_aload_n (pc := 83) dX9_become_83 rfl rfl ?_
  refine v_getH (pc := 84) fg_X9_21_9 dX9_become_84 hV.1 hV.2.2.2.2.1 ?_
  refine v_iconst (pc := 87) (v := nI 0) dX9_become_87 (by decide) ?_
  refine v_bipush (pc := 88) (v := nI 24) dX9_become_88 (by decide) ?_
  refine v_cpI (pc := 90) (n := 24) kA_X9_72 hW.2.1.2.2.1 hV.2.1.2.2.1 (by decide) (Nat.le_of_ble_eq_true rfl) (Nat.le_of_ble_eq_true rfl) dX9_become_90 ?_
  refine v_aload_n (pc := 93) dX9_become_93 rfl rfl ?_
  refine v_getH (pc := 94) fg_X9_24_9 dX9_become_94 hW.1 hW.2.2.2.2.2.1 ?_
  refine v_iconst (pc := 97) (v := nI 0) dX9_become_97 (by decide) ?_
  refine v_aload_n (pc := 98) dX9_become_98 rfl rfl ?_
  refine v_getH (pc := 99) fg_X9_24_9 dX9_become_99 hV.1 hV.2.2.2.2.2.1 ?_
  refine v_iconst (pc := 102) (v := nI 0) dX9_become_102 (by decide) ?_
  refine v_bipush (pc := 103) (v := nI 6) dX9_become_103 (by decide) ?_
  refine v_cpI (pc := 105) (n := 6) kA_X9_72 hW.2.1.2.2.2.1 hV.2.1.2.2.2.1 (by decide) (Nat.le_of_ble_eq_true rfl) (Nat.le_of_ble_eq_true rfl) dX9_become_105 ?_
  refine v_aload_n (pc := 108) dX9_become_108 rfl rfl ?_
  refine v_getH (pc := 109) fg_X9_27_9 dX9_become_109 hW.1 hW.2.2.2.2.2.2.1 ?_
  refine v_iconst (pc := 112) (v := nI 0) dX9_become_112 (by decide) ?_
  refine v_aload_n (pc := 113) dX9_become_113 rfl rfl ?_
  refine v_getH (pc := 114) fg_X9_27_9 dX9_become_114 hV.1 hV.2.2.2.2.2.2.1 ?_
  refine v_iconst (pc := 117) (v := nI 0) dX9_become_117 (by decide) ?_
  refine v_bipush (pc := 118) (v := nI 6) dX9_become_118 (by decide) ?_
  refine v_cpI (pc := 120) (n := 6) kA_X9_72 hW.2.1.2.2.2.2.1 hV.2.1.2.2.2.2.1 (by decide) (Nat.le_of_ble_eq_true rfl) (Nat.le_of_ble_eq_true rfl) dX9_become_120 ?_
  refine v_aload_n (pc := 123) dX9_become_123 rfl rfl ?_
  refine v_getH (pc := 124) fg_X9_30_9 dX9_become_124 hW.1 hW.2.2.2.2.2.2.2.1 ?_
  refine v_iconst (pc := 127) (v := nI 0) dX9_become_127 (by decide) ?_
  refine v_aload_n (pc := 128) dX9_become_128 rfl rfl ?_
  refine v_getH (pc := 129) fg_X9_30_9 dX9_become_129 hV.1 hV.2.2.2.2.2.2.2.1 ?_
  refine v_iconst (pc := 132) (v := nI 0) dX9_become_132 (by decide) ?_
  refine v_bipush (pc := 133) (v := nI 6) dX9_become_133 (by decide) ?_
  refine v_cpI (pc := 135) (n := 6) kA_X9_72 hW.2.1.2.2.2.2.2.1 hV.2.1.2.2.2.2.2.1 (by decide) (Nat.le_of_ble_eq_true rfl) (Nat.le_of_ble_eq_true rfl) dX9_become_135 ?_
  refine v_aload_n (pc := 138) dX9_become_138 rfl rfl ?_
  refine v_getH (pc := 139) fg_X9_33_9 dX9_become_139 hW.1 hW.2.2.2.2.2.2.2.2.1 ?_
  refine v_iconst (pc := 142) (v := nI 0) dX9_become_142 (by decide) ?_
  refine v_aload_n (pc := 143) dX9_become_143 rfl rfl ?_
  refine v_getH (pc := 144) fg_X9_33_9 dX9_become_144 hV.1 hV.2.2.2.2.2.2.2.2.1 ?_
  refine v_iconst (pc := 147) (v := nI 0) dX9_become_147 (by decide) ?_
  refine v_bipush (pc := 148) (v := nI 12) dX9_become_148 (by decide) ?_
  refine v_cpI (pc := 150) (n := 12) kA_X9_72 hW.2.1.2.2.2.2.2.2.1 hV.2.1.2.2.2.2.2.2.1 (by decide) (Nat.le_of_ble_eq_true rfl) (Nat.le_of_ble_eq_true rfl) dX9_become_150 ?_
  refine v_aload_n (pc := 153) dX9_become_153 rfl rfl ?_
  refine v_getH (pc := 154) fg_X9_36_9 dX9_become_154 hW.1 hW.2.2.2.2.2.2.2.2.2.1 ?_
  refine v_iconst (pc := 157) (v := nI 0) dX9_become_157 (by decide) ?_
  refine v_aload_n (pc := 158) dX9_become_158 rfl rfl ?_
  refine v_getH (pc := 159) fg_X9_36_9 dX9_become_159 hV.1 hV.2.2.2.2.2.2.2.2.2.1 ?_
  refine v_iconst (pc := 162) (v := nI 0) dX9_become_162 (by decide) ?_
  refine v_bipush (pc := 163) (v := nI 12) dX9_become_163 (by decide) ?_
  refine v_cpI (pc := 165) (n := 12) kA_X9_72 hW.2.1.2.2.2.2.2.2.2.1 hV.2.1.2.2.2.2.2.2.2.1 (by decide) (Nat.le_of_ble_eq_true rfl) (Nat.le_of_ble_eq_true rfl) dX9_become_165 ?_
  exact v_vret (pc := 168) dX9_become_168 rfl (Nat.le_of_ble_eq_true rfl) (Nat.le_of_ble_eq_true rfl) rfl
abbrev rm_X9_join : Room := { frames := 0, cells := 0, slots := 0, locals := 0 }
set_option maxRecDepth 20000 in
theorem c_X9_join (G : v_G) (l : Launch) {K : Nat × v_TY} {I : Nat → Nat → Int32} {J : Nat → Nat → Int64} {R : Nat → Nat → Option Nat} (hL : Lay K R) {h : Nat} (hh : v_3 h) {a ci n hm : Nat} (hn : I h 0 = nI n) (hn6 : n < 6) (hhm : I h 1 = nI hm) (ha : v_is K a ci 0) (hc : v_cst ci "OneFriend$Person") : v_M G l yX9_join cX9_join 3 none rm_X9_join [.ref h, .ref a] (K, I, J, R) (v_Qv G (fun (M' : v_MM) => M' = (K, v_u (v_u (fun a z => if a = h + 3 ∧ n * 4 ≤ z ∧ z < n * 4 + 4 then nI 0 else v_u (v_u I (h + 2) n (nI 0)) (h + 4) n (nI 0) a z) h 1 (nI (hm ||| 2 ^ n))) h 0 (nI (n + 1)), J, v_u R (h + 1) n (some a)))) := by
  refine v_of [some (.ref h), some (.ref a), none] (by decide) (Nat.le_of_ble_eq_true rfl) (Nat.le_of_ble_eq_true rfl) rfl ?_
  have hV := VH_of hL hh
  have hL2 : Lay K (v_u R (h + 1) n (some a)) := Lay_1 hL hh
  refine v_aload_n (pc := 0) dX9_join_0 rfl rfl ?_
  refine v_getV (pc := 1) fg_X9_52_9 dX9_join_1 hV.1 hn ?_
  refine v_bipush (pc := 4) (v := nI 6) dX9_join_4 (by decide) ?_
  refine v_icmp_ltN (pc := 6) (tgt := 10) ⟨by omega, by omega⟩ dX9_join_6 (by decide) (fun c6 => ?_) (fun c6 => ?_)
  · refine v_aload_n (pc := 10) dX9_join_10 rfl rfl ?_
    refine v_getH (pc := 11) fg_X9_11_9 dX9_join_11 hV.1 hV.2.2.1 ?_
    refine v_aload_n (pc := 14) dX9_join_14 rfl rfl ?_
    refine v_getV (pc := 15) fg_X9_52_9 dX9_join_15 hV.1 hn ?_
    refine v_aload_n (pc := 18) dX9_join_18 rfl rfl ?_
    refine v_aastP (pc := 19) dX9_join_19 hV.2.1.1 ⟨by omega, by omega⟩ ha hc ?_
    have hV := VH_of hL2 hh
    refine v_aload_n (pc := 20) dX9_join_20 rfl rfl ?_
    refine v_getH (pc := 21) fg_X9_17_9 dX9_join_21 hV.1 hV.2.2.2.1 ?_
    refine v_aload_n (pc := 24) dX9_join_24 rfl rfl ?_
    refine v_getV (pc := 25) fg_X9_52_9 dX9_join_25 hV.1 hn ?_
    refine v_iconst (pc := 28) (v := nI 0) dX9_join_28 (by decide) ?_
    refine v_iastoreN (pc := 29) dX9_join_29 hV.2.1.2.1 ⟨by omega, by omega⟩ ?_
    refine v_aload_n (pc := 30) dX9_join_30 rfl rfl ?_
    refine v_getH (pc := 31) fg_X9_24_9 dX9_join_31 hV.1 hV.2.2.2.2.2.1 ?_
    refine v_aload_n (pc := 34) dX9_join_34 rfl rfl ?_
    refine v_getV (pc := 35) fg_X9_52_9 dX9_join_35 hV.1 ((v_u_h (by omega)).trans hn) ?_
    refine v_iconst (pc := 38) (v := nI 0) dX9_join_38 (by decide) ?_
    refine v_iastoreN (pc := 39) dX9_join_39 hV.2.1.2.2.2.1 ⟨by omega, by omega⟩ ?_
    refine v_iconst (pc := 40) (v := nI 0) dX9_join_40 (by decide) ?_
    refine v_istore_n (pc := 41) dX9_join_41 rfl (by decide) rfl ?_
    have key : ∀ j, j ≤ 4 → v_V G l yX9_join cX9_join 3 none rm_X9_join (v_Qv G (fun (M' : v_MM) => M' = (K, v_u (v_u (fun a z => if a = h + 3 ∧ n * 4 ≤ z ∧ z < n * 4 + 4 then nI 0 else v_u (v_u I (h + 2) n (nI 0)) (h + 4) n (nI 0) a z) h 1 (nI (hm ||| 2 ^ n))) h 0 (nI (n + 1)), J, v_u R (h + 1) n (some a)))) 0 0 42 [some (.ref h), some (.ref a), some (.int (nI j))] [] (K, (fun a z => if a = h + 3 ∧ n * 4 ≤ z ∧ z < n * 4 + j then nI 0 else v_u (v_u I (h + 2) n (nI 0)) (h + 4) n (nI 0) a z), J, v_u R (h + 1) n (some a)) := by
      refine v_down 4 (fun j hj ih => ?_)
      refine v_iload_n (pc := 42) dX9_join_42 rfl rfl ?_
      refine v_iconst (pc := 43) (v := nI 4) dX9_join_43 (by decide) ?_
      refine v_icmp_geN (pc := 44) (tgt := 67) ⟨by omega, by omega⟩ dX9_join_44 (by decide) (fun c44 => ?_) (fun c44 => ?_)
      · refine v_aload_n (pc := 67) dX9_join_67 rfl rfl ?_
        refine v_dup (pc := 68) dX9_join_68 rfl ?_
        refine v_getV (pc := 69) fg_X9_56_9 dX9_join_69 hV.1 ((if_neg (fun q => absurd q.1 (by omega))).trans ((v_u_h (by omega)).trans ((v_u_h (by omega)).trans hhm))) ?_
        refine v_iconst (pc := 72) (v := nI 1) dX9_join_72 (by decide) ?_
        refine v_aload_n (pc := 73) dX9_join_73 rfl rfl ?_
        refine v_getV (pc := 74) fg_X9_52_9 dX9_join_74 hV.1 ((if_neg (fun q => absurd q.1 (by omega))).trans ((v_u_h (by omega)).trans ((v_u_h (by omega)).trans hn))) ?_
        refine v_ishl (pc := 77) dX9_join_77 ?_
        refine v_top (v_shl1 _ (by omega)) ?_
        refine v_ior (pc := 78) dX9_join_78 ?_
        refine v_top (nx_or _ _) ?_
        refine v_putI (pc := 79) pg_X9_56_9 (fun h => by cases h) dX9_join_79 hV.1 rfl rfl ?_
        refine v_aload_n (pc := 82) dX9_join_82 rfl rfl ?_
        refine v_dup (pc := 83) dX9_join_83 rfl ?_
        refine v_getV (pc := 84) fg_X9_52_9 dX9_join_84 hV.1 ((v_u_k (by decide)).trans ((if_neg (fun q => absurd q.1 (by omega))).trans ((v_u_h (by omega)).trans ((v_u_h (by omega)).trans hn)))) ?_
        refine v_iconst (pc := 87) (v := nI 1) dX9_join_87 (by decide) ?_
        refine v_iaddN (pc := 88) dX9_join_88 ?_
        refine v_putI (pc := 89) pg_X9_52_9 (fun h => by cases h) dX9_join_89 hV.1 rfl rfl ?_
        exact v_vret (pc := 92) dX9_join_92 rfl (Nat.le_of_ble_eq_true rfl) (Nat.le_of_ble_eq_true rfl) (by rw [show j = 4 by omega])
      · refine v_aload_n (pc := 47) dX9_join_47 rfl rfl ?_
        refine v_getH (pc := 48) fg_X9_21_9 dX9_join_48 hV.1 hV.2.2.2.2.1 ?_
        refine v_aload_n (pc := 51) dX9_join_51 rfl rfl ?_
        refine v_getV (pc := 52) fg_X9_52_9 dX9_join_52 hV.1 ((if_neg (fun q => absurd q.1 (by omega))).trans ((v_u_h (by omega)).trans ((v_u_h (by omega)).trans hn))) ?_
        refine v_iconst (pc := 55) (v := nI 4) dX9_join_55 (by decide) ?_
        refine v_imulN (pc := 56) dX9_join_56 ?_
        refine v_iload_n (pc := 57) dX9_join_57 rfl rfl ?_
        refine v_iaddN (pc := 58) dX9_join_58 ?_
        refine v_iconst (pc := 59) (v := nI 0) dX9_join_59 (by decide) ?_
        refine v_iastoreN (pc := 60) dX9_join_60 hV.2.1.2.2.1 ⟨by omega, by omega⟩ ?_
        refine v_iincN (pc := 61) (b := 1) dX9_join_61 rfl (by decide) (by decide) rfl ?_
        refine v_goto (pc := 64) (tgt := 42) dX9_join_64 (by decide) ?_
        refine v_mem ?_ (ih (j + 1) (by omega) (by omega))
        congr 2
        funext a z
        simp only [v_u]
        by_cases h1 : a = h + 3
        · by_cases h2 : z = n * 4 + j
          · have h3 : n * 4 ≤ z ∧ z < n * 4 + (j + 1) := by omega
            simp [h1, h2]
          · have h3 : (z < n * 4 + (j + 1)) = (z < n * 4 + j) := propext ⟨fun q => by omega, fun q => by omega⟩
            simp [h1, h2, h3]
        · simp [h1]
    have e0 := key 0 (by omega)
    refine v_mem ?_ e0
    congr 2
    funext a z
    rw [if_neg (fun q => absurd q.2 (by omega))]
  · exact absurd hn6 (Nat.not_lt.mpr c6)
abbrev rm_X9_leave : Room := { frames := 0, cells := 0, slots := 0, locals := 0 }
set_option maxRecDepth 20000 in
theorem c_X9_leave (G : v_G) (l : Launch) {K : Nat × v_TY} {I : Nat → Nat → Int32} {J : Nat → Nat → Int64} {R : Nat → Nat → Option Nat} (hL : Lay K R) {h : Nat} (hh : v_3 h) {g n hm : Nat} {km : Nat → Nat} (hn : I h 0 = nI n) (hn6 : n ≤ 6) (hhm : I h 1 = nI hm) (h64 : hm < 64) (hk : ∀ i, i < 6 → I (h + 2) i = nI (km i)) (hg : g < 6) : v_M G l yX9_leave cX9_leave 3 none rm_X9_leave [.ref h, .int (nI g)] (K, I, J, R) (v_Qv G (fun (M' : v_MM) => M' = (K, v_to (v_u I h 1 (nI (hm &&& (127 - 2 ^ g)))) (h + 2) (fun j => nI (if j = g then 0 else km j &&& (hm &&& (127 - 2 ^ g)))) n, J, R))) := by
  refine v_of [some (.ref h), some (.int (nI g)), none] (by decide) (Nat.le_of_ble_eq_true rfl) (Nat.le_of_ble_eq_true rfl) rfl ?_
  have hV := VH_of hL hh
  refine v_aload_n (pc := 0) dX9_leave_0 rfl rfl ?_
  refine v_dup (pc := 1) dX9_leave_1 rfl ?_
  refine v_getV (pc := 2) fg_X9_56_9 dX9_leave_2 hV.1 hhm ?_
  refine v_iconst (pc := 5) (v := nI 1) dX9_leave_5 (by decide) ?_
  refine v_iload_n (pc := 6) dX9_leave_6 rfl rfl ?_
  refine v_ishl (pc := 7) dX9_leave_7 ?_
  refine v_top (v_shl1 _ (by omega)) ?_
  refine v_iconst (pc := 8) (v := -1) dX9_leave_8 (by decide) ?_
  refine v_ixor (pc := 9) dX9_leave_9 ?_
  refine v_iand (pc := 10) dX9_leave_10 ?_
  refine v_top (w_clr _ (by omega) _ (by omega)) ?_
  refine v_putI (pc := 11) pg_X9_56_9 (fun h => by cases h) dX9_leave_11 hV.1 rfl rfl ?_
  refine v_iconst (pc := 14) (v := nI 0) dX9_leave_14 (by decide) ?_
  refine v_istore_n (pc := 15) dX9_leave_15 rfl (by decide) rfl ?_
  have key : ∀ j, j ≤ n → v_V G l yX9_leave cX9_leave 3 none rm_X9_leave (v_Qv G (fun (M' : v_MM) => M' = (K, v_to (v_u I h 1 (nI (hm &&& (127 - 2 ^ g)))) (h + 2) (fun j => nI (if j = g then 0 else km j &&& (hm &&& (127 - 2 ^ g)))) n, J, R))) 0 0 16 [some (.ref h), some (.int (nI g)), some (.int (nI j))] [] (K, v_to (v_u I h 1 (nI (hm &&& (127 - 2 ^ g)))) (h + 2) (fun j => nI (if j = g then 0 else km j &&& (hm &&& (127 - 2 ^ g)))) j, J, R) := by
    refine v_down n (fun j hj ih => ?_)
    refine v_iload_n (pc := 16) dX9_leave_16 rfl rfl ?_
    refine v_aload_n (pc := 17) dX9_leave_17 rfl rfl ?_
    refine v_getV (pc := 18) fg_X9_52_9 dX9_leave_18 hV.1 ((v_to_h (by omega)).trans ((v_u_k (by decide)).trans hn)) ?_
    refine v_icmp_geN (pc := 21) (tgt := 56) ⟨by omega, by omega⟩ dX9_leave_21 (by decide) (fun c21 => ?_) (fun c21 => ?_)
    · exact v_vret (pc := 56) dX9_leave_56 rfl (Nat.le_of_ble_eq_true rfl) (Nat.le_of_ble_eq_true rfl) (by rw [show j = n by omega])
    · refine v_aload_n (pc := 24) dX9_leave_24 rfl rfl ?_
      refine v_getH (pc := 25) fg_X9_17_9 dX9_leave_25 hV.1 hV.2.2.2.1 ?_
      refine v_iload_n (pc := 28) dX9_leave_28 rfl rfl ?_
      refine v_iload_n (pc := 29) dX9_leave_29 rfl rfl ?_
      refine v_iload_n (pc := 30) dX9_leave_30 rfl rfl ?_
      refine v_icmp_neN (pc := 31) (tgt := 38) ⟨by omega, by omega⟩ dX9_leave_31 (by decide) (fun c31 => ?_) (fun c31 => ?_)
      · refine v_aload_n (pc := 38) dX9_leave_38 rfl rfl ?_
        refine v_getH (pc := 39) fg_X9_17_9 dX9_leave_39 hV.1 hV.2.2.2.1 ?_
        refine v_iload_n (pc := 42) dX9_leave_42 rfl rfl ?_
        refine v_ialoadN (pc := 43) dX9_leave_43 hV.2.1.2.1 ⟨by omega, by omega⟩ ((v_to_ge (Nat.le_refl _)).trans ((v_u_h (by omega)).trans (hk j (by omega)))) ?_
        refine v_aload_n (pc := 44) dX9_leave_44 rfl rfl ?_
        refine v_getV (pc := 45) fg_X9_56_9 dX9_leave_45 hV.1 ((v_to_h (by omega)).trans v_u_same) ?_
        refine v_iand (pc := 48) dX9_leave_48 ?_
        refine v_iastoreN (pc := 49) dX9_leave_49 hV.2.1.2.1 ⟨by omega, by omega⟩ ?_
        refine v_iincN (pc := 50) (b := 1) dX9_leave_50 rfl (by decide) (by decide) rfl ?_
        refine v_goto (pc := 53) (tgt := 16) dX9_leave_53 (by decide) ?_
        rw [v_to_s (by first | (rw [if_pos c31]; done) | (rw [if_neg c31]; exact nx_and _ _))]
        exact ih (j + 1) (by omega) (by omega)
      · refine v_iconst (pc := 34) (v := nI 0) dX9_leave_34 (by decide) ?_
        refine v_goto (pc := 35) (tgt := 49) dX9_leave_35 (by decide) ?_
        refine v_iastoreN (pc := 49) dX9_leave_49 hV.2.1.2.1 ⟨by omega, by omega⟩ ?_
        refine v_iincN (pc := 50) (b := 1) dX9_leave_50 rfl (by decide) (by decide) rfl ?_
        refine v_goto (pc := 53) (tgt := 16) dX9_leave_53 (by decide) ?_
        rw [v_to_s (by first | (rw [if_pos c31]; done) | (rw [if_neg c31]; exact nx_and _ _))]
        exact ih (j + 1) (by omega) (by omega)
  have e0 := key 0 (Nat.zero_le _)
  rw [v_to_0] at e0
  exact e0
theorem po_q0 : ∀ q, q < 15 → ∀ i, i < 6 → ∀ j, j < 6 → (i = j ∨ decide (w_po i j = q) = decide ((i = w_l q ∧ j = w_g q) ∨ (i = w_g q ∧ j = w_l q))) := by decide +kernel
theorem po_q (q : Nat) (hq : q < 15) (i : Nat) (hi : i < 6) (j : Nat) (hj : j < 6) (n : i ≠ j) : w_po i j = q ↔ (i = w_l q ∧ j = w_g q) ∨ (i = w_g q ∧ j = w_l q) := decide_eq_decide.mp ((po_q0 q hq i hi j hj).resolve_left n)
theorem po_n0 : ∀ n, n < 6 → ∀ i, i < 6 → ∀ j, j < 6 → (i = j ∨ decide (w_po i j < w_pr n) = decide (i < n ∧ j < n)) := by decide +kernel
theorem po_n (n : Nat) (hn : n < 6) (i : Nat) (hi : i < 6) (j : Nat) (hj : j < 6) (h : i ≠ j) : w_po i j < w_pr n ↔ i < n ∧ j < n := decide_eq_decide.mp ((po_n0 n hn i hi j hj).resolve_left h)
def t_q (q code i j : Nat) : Bool := decide (i ≠ j ∧ i < 6 ∧ j < 6 ∧ w_po i j < q) && code.testBit (w_po i j)
theorem t_q_n {n code i j : Nat} (hn : n < 6) : t_q (w_pr n) code i j = t_ed n code i j := by
  unfold t_q t_ed
  congr 1
  apply decide_eq_decide.mpr
  constructor
  · rintro ⟨h1, h2, h3, h4⟩
    have := (po_n n hn i h2 j h3 h1).mp h4
    exact ⟨h1, this⟩
  · rintro ⟨h1, h2, h3⟩
    exact ⟨h1, by omega, by omega, (po_n n hn i (by omega) j (by omega) h1).mpr ⟨h2, h3⟩⟩
theorem t_q_0 {q code i j : Nat} (hc : ¬ code.testBit q = true) : t_q (q + 1) code i j = t_q q code i j := by
  unfold t_q
  by_cases e : w_po i j = q
  · rw [e]; simp only [Bool.not_eq_true] at hc; rw [hc, Bool.and_false, Bool.and_false]
  · congr 1
    exact decide_eq_decide.mpr ⟨fun ⟨a, b, c, d⟩ => ⟨a, b, c, by omega⟩, fun ⟨a, b, c, d⟩ => ⟨a, b, c, by omega⟩⟩
theorem t_put_b {f : Nat → Nat} {a d i j : Nat} (had : a ≠ d) : (t_put f a d i).testBit j = ((f i).testBit j || decide ((i = a ∧ j = d) ∨ (i = d ∧ j = a))) := by
  unfold t_put
  by_cases e1 : i = a
  · subst e1
    rw [if_pos rfl, Nat.testBit_or, Nat.testBit_two_pow]
    congr 1
    exact decide_eq_decide.mpr (by omega)
  · rw [if_neg e1]
    by_cases e2 : i = d
    · subst e2
      rw [if_pos rfl, Nat.testBit_or, Nat.testBit_two_pow]
      congr 1
      exact decide_eq_decide.mpr (by omega)
    · rw [if_neg e2, decide_eq_false (by omega), Bool.or_false]
theorem t_q_1 {f : Nat → Nat} {q code : Nat} (h : ∀ i j, (f i).testBit j = t_q q code i j) (hq : q < 15) (hc : code.testBit q = true) (i j : Nat) : (t_put f (w_l q) (w_g q) i).testBit j = t_q (q + 1) code i j := by
  have hg := w_g_in q hq
  rw [t_put_b (by omega), h]
  unfold t_q
  by_cases hij : i ≠ j ∧ i < 6 ∧ j < 6
  · obtain ⟨h1, h2, h3⟩ := hij
    have e := po_q q hq i h2 j h3 h1
    by_cases c : w_po i j = q
    · rw [decide_eq_true (e.mp c), Bool.or_true, decide_eq_true (show i ≠ j ∧ i < 6 ∧ j < 6 ∧ w_po i j < q + 1 by omega), c, hc]; rfl
    · rw [decide_eq_false (fun z => c (e.mpr z)), Bool.or_false]
      congr 1
      exact decide_eq_decide.mpr ⟨fun ⟨a, b, c, d⟩ => ⟨a, b, c, by omega⟩, fun ⟨a, b, c, d⟩ => ⟨a, b, c, by omega⟩⟩
  · rw [decide_eq_false (show ¬ ((i = w_l q ∧ j = w_g q) ∨ (i = w_g q ∧ j = w_l q)) by omega), Bool.or_false, decide_eq_false (fun z => hij ⟨z.1, z.2.1, z.2.2.1⟩), decide_eq_false (fun z => hij ⟨z.1, z.2.1, z.2.2.1⟩)]
def cT (h : Nat) (I I' : Nat → Nat → Int32) : Prop := ∀ a z, a ≠ h + 2 → I' a z = I a z
abbrev rm_X9_befriendAs : Room := { frames := 1, cells := 0, slots := 0, locals := 23 }
set_option maxRecDepth 20000 in
theorem c_X9_befriendAs (G : v_G) (l : Launch) {K : Nat × v_TY} {I : Nat → Nat → Int32} {J : Nat → Nat → Int64} {R : Nat → Nat → Option Nat} (hL : Lay K R) {h : Nat} (hh : v_3 h) {code n : Nat} (hn : n ≤ 5) : v_M G l yX9_befriendAs cX9_befriendAs 4 none rm_X9_befriendAs [.ref h, .int (nI code), .int (nI (w_pr n))] (K, I, J, R) (v_Qv G (fun (M' : v_MM) => ∃ I', M' = (K, I', J, R) ∧ cT h I I' ∧ ∃ f : Nat → Nat, (∀ i, i < 6 → I' (h + 2) i = nI (f i)) ∧ (∀ i, f i < 64) ∧ ∀ i j, (f i).testBit j = t_ed n code i j)) := by
  refine v_of [some (.ref h), some (.int (nI code)), some (.int (nI (w_pr n))), none] (by decide) (Nat.le_of_ble_eq_true rfl) (Nat.le_of_ble_eq_true rfl) rfl ?_
  have hV := VH_of hL hh
  have h15 := pr15 (show n ≤ 6 by omega)
  refine v_aload_n (pc := 0) dX9_befriendAs_0 rfl rfl ?_
  refine v_getH (pc := 1) fg_X9_17_9 dX9_befriendAs_1 hV.1 hV.2.2.2.1 ?_
  refine v_iconst (pc := 4) (v := nI 0) dX9_befriendAs_4 (by decide) ?_
  refine v_cv (pc := 5) (v_rS (c_J7_fill_53178 G l hV.2.1.2.1 (by decide)) rfl kS_X9_147 ⟨Nat.le_of_ble_eq_true rfl, Nat.le_of_ble_eq_true rfl⟩ ⟨Nat.le_of_ble_eq_true rfl, Nat.le_of_ble_eq_true rfl⟩ dX9_befriendAs_5 (Nat.le_of_ble_eq_true rfl)) (fun M5 h5 => ?_)
  subst h5
  refine v_iconst (pc := 8) (v := nI 0) dX9_befriendAs_8 (by decide) ?_
  refine v_istore_n (pc := 9) dX9_befriendAs_9 rfl (by decide) rfl ?_
  have key : ∀ q, q ≤ w_pr n → ∀ (Iq : Nat → Nat → Int32) (f : Nat → Nat), cT h I Iq → (∀ i, i < 6 → Iq (h + 2) i = nI (f i)) → (∀ i, f i < 64) → (∀ i j, (f i).testBit j = t_q q code i j) → v_V G l yX9_befriendAs cX9_befriendAs 4 none rm_X9_befriendAs (v_Qv G (fun (M' : v_MM) => ∃ I', M' = (K, I', J, R) ∧ cT h I I' ∧ ∃ f : Nat → Nat, (∀ i, i < 6 → I' (h + 2) i = nI (f i)) ∧ (∀ i, f i < 64) ∧ ∀ i j, (f i).testBit j = t_ed n code i j)) 0 0 10 [some (.ref h), some (.int (nI code)), some (.int (nI (w_pr n))), some (.int (nI q))] [] (K, Iq, J, R) := by
    refine v_down (w_pr n) (fun q hq ih => ?_)
    intro Iq f hT hf h64 hb
    refine v_iload_n (pc := 10) dX9_befriendAs_10 rfl rfl ?_
    refine v_iload_n (pc := 11) dX9_befriendAs_11 rfl rfl ?_
    refine v_icmp_geN (pc := 12) (tgt := 44) ⟨by omega, by omega⟩ dX9_befriendAs_12 (by decide) (fun c12 => ?_) (fun c12 => ?_)
    · exact v_vret (pc := 44) dX9_befriendAs_44 rfl (Nat.le_of_ble_eq_true rfl) (Nat.le_of_ble_eq_true rfl) ⟨Iq, rfl, hT, f, hf, h64, fun i j => by rw [hb i j, show q = w_pr n by omega, t_q_n (by omega)]⟩
    · have hg := w_g_in q (by omega)
      refine v_iload_n (pc := 15) dX9_befriendAs_15 rfl rfl ?_
      refine v_iload_n (pc := 16) dX9_befriendAs_16 rfl rfl ?_
      refine v_ci (pc := 17) (v_rSN (c_X11_hasBit G l (by omega)) rfl kSN_X9_82 ⟨Nat.le_of_ble_eq_true rfl, Nat.le_of_ble_eq_true rfl⟩ ⟨Nat.le_of_ble_eq_true rfl, Nat.le_of_ble_eq_true rfl⟩ dX9_befriendAs_17 (Nat.le_of_ble_eq_true rfl)) (fun x17 M17 h17 => ?_)
      obtain ⟨rfl, rfl⟩ := h17
      refine v_if_eqP (pc := 20) (tgt := 38) dX9_befriendAs_20 (by decide) (fun c20 => ?_) (fun c20 => ?_)
      · rw [w_bt (by omega)] at c20
        refine v_iincN (pc := 38) (b := 1) dX9_befriendAs_38 rfl (by decide) (by decide) rfl ?_
        refine v_goto (pc := 41) (tgt := 10) dX9_befriendAs_41 (by decide) ?_
        first
          | exact ih (q + 1) (by omega) (by omega) Iq f hT hf h64 (fun i j => by rw [hb i j, t_q_0 c20])
          | exact ih (q + 1) (by omega) (by omega) _ (t_put f (w_l q) (w_g q)) (fun a z hn => (v_u_h hn).trans ((v_u_h hn).trans (hT a z hn))) (fun i hi => by unfold t_put; by_cases e1 : i = w_l q; (subst e1; rw [v_u_k (by omega), v_u_same, if_pos rfl]; rfl); by_cases e2 : i = w_g q; (subst e2; rw [v_u_same, if_neg e1, if_pos rfl]; rfl); rw [v_u_k e2, v_u_k e1, if_neg e1, if_neg e2]; exact hf i hi) (fun i => by unfold t_put; split; exact Nat.or_lt_two_pow (n := 6) (h64 _) (Nat.pow_lt_pow_right (by decide) (by omega)); split; exact Nat.or_lt_two_pow (n := 6) (h64 _) (Nat.pow_lt_pow_right (by decide) (by omega)); exact h64 i) (t_q_1 hb (by omega) c20)
      · rw [w_bt (by omega)] at c20
        refine v_aload_n (pc := 23) dX9_befriendAs_23 rfl rfl ?_
        refine v_gets (pc := 24) (i := 0) (nm := "LESSER") (by decide) (Or.inr gs_X9_95) dX9_befriendAs_24 ?_
        refine v_iload_n (pc := 27) dX9_befriendAs_27 rfl rfl ?_
        refine v_stN0 (pc := 28) dX9_befriendAs_28 (by omega) ?_
        refine v_gets (pc := 29) (i := 1) (nm := "GREATER") (by decide) (Or.inr gs_X9_98) dX9_befriendAs_29 ?_
        refine v_iload_n (pc := 32) dX9_befriendAs_32 rfl rfl ?_
        refine v_stN1 (pc := 33) dX9_befriendAs_33 (by omega) ?_
        refine v_iconst (pc := 34) (v := nI 1) dX9_befriendAs_34 (by decide) ?_
        refine v_top (show nI 1 = v_p (true = true) from (v_p_t rfl).symm) ?_
        refine v_cv (pc := 35) (v_rV (c_X9_tie G l hL hh (ar := true) (km := f) hf h64 ⟨by omega, by omega, by omega⟩) rfl kV_X9_107 (v_rcO hV.1 rfl (by decide)) ⟨Nat.le_of_ble_eq_true rfl, Nat.le_of_ble_eq_true rfl⟩ ⟨Nat.le_of_ble_eq_true rfl, Nat.le_of_ble_eq_true rfl⟩ dX9_befriendAs_35 (Nat.le_of_ble_eq_true rfl)) (fun M35 h35 => ?_)
        subst h35
        refine v_iincN (pc := 38) (b := 1) dX9_befriendAs_38 rfl (by decide) (by decide) rfl ?_
        refine v_goto (pc := 41) (tgt := 10) dX9_befriendAs_41 (by decide) ?_
        first
          | exact ih (q + 1) (by omega) (by omega) Iq f hT hf h64 (fun i j => by rw [hb i j, t_q_0 c20])
          | exact ih (q + 1) (by omega) (by omega) _ (t_put f (w_l q) (w_g q)) (fun a z hn => (v_u_h hn).trans ((v_u_h hn).trans (hT a z hn))) (fun i hi => by unfold t_put; by_cases e1 : i = w_l q; (subst e1; rw [v_u_k (by omega), v_u_same, if_pos rfl]; rfl); by_cases e2 : i = w_g q; (subst e2; rw [v_u_same, if_neg e1, if_pos rfl]; rfl); rw [v_u_k e2, v_u_k e1, if_neg e1, if_neg e2]; exact hf i hi) (fun i => by unfold t_put; split; exact Nat.or_lt_two_pow (n := 6) (h64 _) (Nat.pow_lt_pow_right (by decide) (by omega)); split; exact Nat.or_lt_two_pow (n := 6) (h64 _) (Nat.pow_lt_pow_right (by decide) (by omega)); exact h64 i) (t_q_1 hb (by omega) c20)
  exact key 0 (Nat.zero_le _) _ (fun _ => 0) (fun a z hn => v_to_h hn) (fun i hi => (v_to_lt hi).trans rfl) (fun _ => (by show 0 < 64; decide)) (fun i j => by rw [Nat.zero_testBit]; unfold t_q; rw [decide_eq_false (by omega)]; rfl)
abbrev rm_X9_eachShares : Room := { frames := 1, cells := 0, slots := 0, locals := 20 }
set_option maxRecDepth 20000 in
theorem c_X9_eachShares (G : v_G) (l : Launch) {K : Nat × v_TY} {I : Nat → Nat → Int32} {J : Nat → Nat → Int64} {R : Nat → Nat → Option Nat} (hL : Lay K R) {h : Nat} (hh : v_3 h) {k pr : Nat} {f : Nat → Nat} (hf : ∀ i, i < 6 → I (h + 2) i = nI (f i)) (h64 : ∀ i, f i < 64) (hp : pr ≤ 15 ∧ k ≤ 3) : v_M G l yX9_eachShares cX9_eachShares 4 (some .boolean) rm_X9_eachShares [.ref h, .int (nI k), .int (nI pr)] (K, I, J, R) (v_Qi G (fun (x : Int32) (M' : v_MM) => x = v_p (∀ q, q < pr → w_both f (w_l q) (w_g q) = k) ∧ M' = (K, I, J, R))) := by
  refine v_of [some (.ref h), some (.int (nI k)), some (.int (nI pr)), none] (by decide) (Nat.le_of_ble_eq_true rfl) (Nat.le_of_ble_eq_true rfl) rfl ?_
  have hV := VH_of hL hh
  refine v_iconst (pc := 0) (v := nI 0) dX9_eachShares_0 (by decide) ?_
  refine v_istore_n (pc := 1) dX9_eachShares_1 rfl (by decide) rfl ?_
  have key : ∀ q, q ≤ pr → (∀ j, j < q → w_both f (w_l j) (w_g j) = k) → v_V G l yX9_eachShares cX9_eachShares 4 (some .boolean) rm_X9_eachShares (v_Qi G (fun (x : Int32) (M' : v_MM) => x = v_p (∀ q, q < pr → w_both f (w_l q) (w_g q) = k) ∧ M' = (K, I, J, R))) 0 0 2 [some (.ref h), some (.int (nI k)), some (.int (nI pr)), some (.int (nI q))] [] (K, I, J, R) := by
    refine v_down pr (fun q hq ih => ?_)
    intro hal
    refine v_iload_n (pc := 2) dX9_eachShares_2 rfl rfl ?_
    refine v_iload_n (pc := 3) dX9_eachShares_3 rfl rfl ?_
    refine v_icmp_geN (pc := 4) (tgt := 43) ⟨by omega, by omega⟩ dX9_eachShares_4 (by decide) (fun c4 => ?_) (fun c4 => ?_)
    · refine v_iconst (pc := 43) (v := nI 1) dX9_eachShares_43 (by decide) ?_
      exact v_iret (pc := 44) dX9_eachShares_44 rfl rfl (Nat.le_of_ble_eq_true rfl) (Nat.le_of_ble_eq_true rfl) ⟨by first | exact v_pz (fun z => c32 (z q (by omega))) | exact v_po (fun j hj => hal j (by omega)), rfl⟩
    · have hg := w_g_in q (by omega)
      refine v_aload_n (pc := 7) dX9_eachShares_7 rfl rfl ?_
      refine v_getH (pc := 8) fg_X9_17_9 dX9_eachShares_8 hV.1 hV.2.2.2.1 ?_
      refine v_gets (pc := 11) (i := 0) (nm := "LESSER") (by decide) (Or.inr gs_X9_95) dX9_eachShares_11 ?_
      refine v_iload_n (pc := 14) dX9_eachShares_14 rfl rfl ?_
      refine v_stN0 (pc := 15) dX9_eachShares_15 (by omega) ?_
      refine v_ialoadN (pc := 16) dX9_eachShares_16 hV.2.1.2.1 ⟨by omega, by omega⟩ (hf _ (by omega)) ?_
      refine v_aload_n (pc := 17) dX9_eachShares_17 rfl rfl ?_
      refine v_getH (pc := 18) fg_X9_17_9 dX9_eachShares_18 hV.1 hV.2.2.2.1 ?_
      refine v_gets (pc := 21) (i := 1) (nm := "GREATER") (by decide) (Or.inr gs_X9_98) dX9_eachShares_21 ?_
      refine v_iload_n (pc := 24) dX9_eachShares_24 rfl rfl ?_
      refine v_stN1 (pc := 25) dX9_eachShares_25 (by omega) ?_
      refine v_ialoadN (pc := 26) dX9_eachShares_26 hV.2.1.2.1 ⟨by omega, by omega⟩ (hf _ (by omega)) ?_
      refine v_iand (pc := 27) dX9_eachShares_27 ?_
      refine v_top (nx_and _ _) ?_
      refine v_ci (pc := 28) (v_rS (c_J6_bitCount_0f7a4 G l (Nat.lt_of_le_of_lt Nat.and_le_left (Nat.lt_trans (h64 _) (by decide)))) rfl kS_X9_86 ⟨Nat.le_of_ble_eq_true rfl, Nat.le_of_ble_eq_true rfl⟩ ⟨Nat.le_of_ble_eq_true rfl, Nat.le_of_ble_eq_true rfl⟩ dX9_eachShares_28 (Nat.le_of_ble_eq_true rfl)) (fun x28 M28 h28 => ?_)
      obtain ⟨rfl, rfl⟩ := h28
      have hc7 := cnt_le (fun j => (f (w_l q) &&& f (w_g q)).testBit j) 7
      rw [cnt15 (Nat.lt_of_le_of_lt Nat.and_le_left (h64 _))]
      refine v_iload_n (pc := 31) dX9_eachShares_31 rfl rfl ?_
      refine v_icmp_eqN (pc := 32) (tgt := 37) ⟨by omega, by omega⟩ dX9_eachShares_32 (by decide) (fun c32 => ?_) (fun c32 => ?_)
      · refine v_iincN (pc := 37) (b := 1) dX9_eachShares_37 rfl (by decide) (by decide) rfl ?_
        refine v_goto (pc := 40) (tgt := 2) dX9_eachShares_40 (by decide) ?_
        exact ih (q + 1) (by omega) (by omega) (fun j hj => by rcases Nat.lt_succ_iff_lt_or_eq.mp hj with z | z; exact hal j z; subst z; exact c32)
      · refine v_iconst (pc := 35) (v := nI 0) dX9_eachShares_35 (by decide) ?_
        exact v_iret (pc := 36) dX9_eachShares_36 rfl rfl (Nat.le_of_ble_eq_true rfl) (Nat.le_of_ble_eq_true rfl) ⟨by first | exact v_pz (fun z => c32 (z q (by omega))) | exact v_po (fun j hj => hal j (by omega)), rfl⟩
  exact key 0 (Nat.zero_le _) (fun j hj => absurd hj (by omega))
