/-! THE CLASS: its leaves, and the JDK's small members -/
section CROWS
variable {G : v_G} {l : Launch} {y : MethodName} {cc : ByteArray} {nL : Nat} {rt : Option FieldType} {Z : Room} {Qc : Array Value → State → Outcome → State → Prop} {cells slots pc : Nat} {lv : List (Option Value)} {st : List Value} {M : v_MM}
variable {K : Nat × v_TY} {I : Nat → Nat → Int32} {J : Nat → Nat → Int64} {R : Nat → Nat → Option Nat} {h n : Nat}
theorem v_les_at : ∀ j, j < 15 → v_les (nI j).toNatClampNeg = .int (nI (w_l j)) := by decide +kernel
theorem v_gre_at : ∀ j, j < 15 → v_gre (nI j).toNatClampNeg = .int (nI (w_g j)) := by decide +kernel
theorem v_stN0 {j : Nat} (hd : decode cc pc = .ok (.iaload, 1)) (hj : j < 15) (kk : v_V G l y cc nL rt Z Qc cells slots (pc + 1) lv (.int (nI (w_l j)) :: st) M) : v_V G l y cc nL rt Z Qc cells slots pc lv (.int (nI j) :: .ref (1000000 + 0) :: st) M := v_stld0 (vp_in_nI hj (by decide)) (v_les_at j hj) hd kk
theorem v_stN1 {j : Nat} (hd : decode cc pc = .ok (.iaload, 1)) (hj : j < 15) (kk : v_V G l y cc nL rt Z Qc cells slots (pc + 1) lv (.int (nI (w_g j)) :: st) M) : v_V G l y cc nL rt Z Qc cells slots pc lv (.int (nI j) :: .ref (1000000 + 1) :: st) M := v_stld1 (vp_in_nI hj (by decide)) (v_gre_at j hj) hd kk
theorem v_aaloadNH {j k h' : Nat} (hd : decode cc pc = .ok (.aaload, 1)) (hi : v_is K h k n) (hk : k = 17 ∨ k = 18) (hj : j < n ∧ n < 2 ^ 31) (hr : R h j = some h') (kk : v_V G l y cc nL rt Z Qc cells slots (pc + 1) lv (.ref h' :: st) (K, I, J, R)) : v_V G l y cc nL rt Z Qc cells slots pc lv (.int (nI j) :: .ref h :: st) (K, I, J, R) := v_aaload (r := some h') hd hi hk (vp_in_nI hj.1 hj.2) (by rw [nI_clamp (Nat.lt_trans hj.1 hj.2)]; exact hr) kk
theorem v_aaloadN0 {j k : Nat} (hd : decode cc pc = .ok (.aaload, 1)) (hi : v_is K h k n) (hk : k = 17 ∨ k = 18) (hj : j < n ∧ n < 2 ^ 31) (hr : R h j = none) (kk : v_V G l y cc nL rt Z Qc cells slots (pc + 1) lv (.null :: st) (K, I, J, R)) : v_V G l y cc nL rt Z Qc cells slots pc lv (.int (nI j) :: .ref h :: st) (K, I, J, R) := v_aaload (r := none) hd hi hk (vp_in_nI hj.1 hj.2) (by rw [nI_clamp (Nat.lt_trans hj.1 hj.2)]; exact hr) kk
end CROWS
theorem v_ltI {p : Int32} {n : Nat} (hn : n < 2 ^ 31) : (¬ p < 0 ∧ ¬ nI n ≤ p) ↔ vp_in p n := by
  rw [vp_in_iff, Int32.lt_iff_toInt_lt, Int32.le_iff_toInt_le, nI_toInt hn]
  have e : (0 : Int32).toInt = 0 := rfl
  rw [e]; omega
/-- how many bits of a small mask, as the JDK counts them -/
theorem and_sp (a b c d : Nat) (hb : b < 256) (hd : d < 256) : (256 * a + b) &&& (256 * c + d) = 256 * (a &&& c) + (b &&& d) := by
  have hbd : b &&& d < 2 ^ 8 := Nat.lt_of_le_of_lt Nat.and_le_left hb
  apply Nat.eq_of_testBit_eq
  intro j
  have e1 := Nat.testBit_two_pow_mul_add a (i := 8) (b := b) hb j
  have e2 := Nat.testBit_two_pow_mul_add c (i := 8) (b := d) hd j
  have e3 := Nat.testBit_two_pow_mul_add (a &&& c) (i := 8) (b := b &&& d) hbd j
  rw [Nat.testBit_and]
  rw [show (256 : Nat) = 2 ^ 8 from rfl, e1, e2, e3]
  split <;> rw [Nat.testBit_and]
theorem mk_sp (a b c c2 : Nat) (ha : a < 256) (hb : b < 256) (hc : c < 256) : (256 * a + b) &&& (256 * (256 * c2 + c) + c) = 256 * (a &&& c) + (b &&& c) := by
  rw [and_sp a b _ c hb hc]
  have e := and_sp 0 a c2 c ha hc
  rw [show 256 * 0 + a = a by omega, Nat.zero_and, show 256 * 0 + (a &&& c) = (a &&& c) by omega] at e
  rw [e]
def p1 (b : Nat) : Nat := b - ((b / 2) &&& 85)
def p2 (b : Nat) : Nat := (b &&& 51) + ((b / 4) &&& 51)
def p3 (b : Nat) : Nat := (p2 (p1 b) + p2 (p1 b) / 16) % 16
theorem p1_r : ∀ r, r < 2 → ∀ b, b < 256 → (128 * r + b / 2) &&& 85 = (b / 2) &&& 85 := by decide +kernel
theorem p2_r : ∀ r, r < 4 → ∀ b, b < 256 → (64 * r + b / 4) &&& 51 = (b / 4) &&& 51 := by decide +kernel
theorem p2_b : ∀ b, b < 256 → p2 (p1 b) ≤ 68 ∧ p2 (p1 b) % 16 ≤ 4 := by decide +kernel
theorem p3_c : ∀ b, b < 256 → p3 b = cnt (fun i => b.testBit i) 8 := by decide +kernel
theorem cnt_sp (f : Nat → Bool) (n : Nat) : ∀ k, cnt f (n + k) = cnt f n + cnt (fun i => f (n + i)) k
  | 0 => rfl
  | k + 1 => by
    show cnt f (n + k) + (if f (n + k) then 1 else 0) = cnt f n + (cnt (fun i => f (n + i)) k + if f (n + k) then 1 else 0)
    rw [cnt_sp f n k]; omega
theorem shr_d (k j : Nat) : k >>> j = k / 2 ^ j := Nat.shiftRight_eq_div_pow k j
theorem pc_run {m : Nat} (h : m < 32768) : ∀ (x1 x2 x3 x4 x5 : Nat), x1 = m - ((m >>> 1) &&& 1431655765) → x2 = (x1 &&& 858993459) + ((x1 >>> 2) &&& 858993459) → x3 = (x2 + (x2 >>> 4)) &&& 252645135 → x4 = x3 + (x3 >>> 8) → x5 = x4 + (x4 >>> 16) → x5 &&& 63 = cnt (fun i => m.testBit i) 15 ∧ (m >>> 1) &&& 1431655765 ≤ m ∧ x1 < 32768 ∧ x2 < 65536 ∧ x3 < 65536 ∧ x4 < 65536 := by
  intro x1 x2 x3 x4 x5 e1 e2 e3 e4 e5
  obtain ⟨a, ha⟩ : ∃ a, a = m / 256 := ⟨_, rfl⟩
  obtain ⟨b, hb⟩ : ∃ b, b = m % 256 := ⟨_, rfl⟩
  have ha1 : a < 128 := by omega
  have hb1 : b < 256 := by omega
  have hm : m = 256 * a + b := by omega
  have k1 := p1_r (a % 2) (by omega) b hb1
  have c1 : (m >>> 1) &&& 1431655765 = 256 * ((a / 2) &&& 85) + ((b / 2) &&& 85) := by
    rw [shr_d, show m / 2 ^ 1 = 256 * (a / 2) + (128 * (a % 2) + b / 2) by omega, ← k1]
    exact mk_sp _ _ 85 21845 (by omega) (by omega) (by decide)
  have l1 : (a / 2) &&& 85 ≤ a / 2 := Nat.and_le_left
  have l2 : (b / 2) &&& 85 ≤ b / 2 := Nat.and_le_left
  have f1 : x1 = 256 * p1 a + p1 b := by rw [e1, c1, p1, p1]; omega
  have q1 : p1 a ≤ a := Nat.sub_le _ _
  have q2 : p1 b ≤ b := Nat.sub_le _ _
  have k2 := p2_r (p1 a % 4) (by omega) (p1 b) (by omega)
  have c2 : (x1 >>> 2) &&& 858993459 = 256 * ((p1 a / 4) &&& 51) + ((p1 b / 4) &&& 51) := by
    rw [shr_d, show x1 / 2 ^ 2 = 256 * (p1 a / 4) + (64 * (p1 a % 4) + p1 b / 4) by omega, ← k2]
    exact mk_sp _ _ 51 13107 (by omega) (by omega) (by decide)
  have c2' : x1 &&& 858993459 = 256 * (p1 a &&& 51) + (p1 b &&& 51) := by
    rw [f1]; exact mk_sp _ _ 51 13107 (by omega) (by omega) (by decide)
  have f2 : x2 = 256 * p2 (p1 a) + p2 (p1 b) := by rw [e2, c2, c2']; show _ = 256 * (_ + _) + (_ + _); omega
  obtain ⟨g1, g2⟩ := p2_b a (by omega)
  obtain ⟨g3, g4⟩ := p2_b b (by omega)
  have c3 : (x2 + (x2 >>> 4)) &&& 252645135 = 256 * ((p2 (p1 a) + p2 (p1 a) / 16) &&& 15) + ((16 * (p2 (p1 a) % 16) + p2 (p1 b) + p2 (p1 b) / 16) &&& 15) := by
    rw [shr_d, show x2 + x2 / 2 ^ 4 = 256 * (p2 (p1 a) + p2 (p1 a) / 16) + (16 * (p2 (p1 a) % 16) + p2 (p1 b) + p2 (p1 b) / 16) by omega]
    exact mk_sp _ _ 15 3855 (by omega) (by omega) (by decide)
  have m15 : ∀ z : Nat, z &&& 15 = z % 16 := fun z => Nat.and_two_pow_sub_one_eq_mod z 4
  rw [m15, m15] at c3
  have f3 : x3 = 256 * p3 a + p3 b := by rw [e3, c3]; show _ = 256 * ((_ + _) % 16) + (_ + _) % 16; omega
  have p3a : p3 a < 16 := Nat.mod_lt _ (by decide)
  have p3b : p3 b < 16 := Nat.mod_lt _ (by decide)
  have f4 : x4 = 256 * p3 a + p3 b + p3 a := by rw [e4, shr_d]; omega
  have f5 : x5 = x4 := by rw [e5, shr_d]; omega
  refine ⟨?_, by omega, by omega, by omega, by omega, by omega⟩
  rw [show x5 &&& 63 = x5 % 64 from Nat.and_two_pow_sub_one_eq_mod x5 6, show x5 % 64 = p3 b + p3 a by omega, p3_c b hb1, p3_c a (by omega)]
  have hs := cnt_sp (fun i => m.testBit i) 8 7
  show _ = cnt (fun i => m.testBit i) (8 + 7)
  rw [hs]
  have hbit : ∀ j, m.testBit j = if j < 8 then b.testBit j else a.testBit (j - 8) := fun j => by
    rw [hm]; exact Nat.testBit_two_pow_mul_add a (i := 8) (b := b) hb1 j
  congr 1
  · exact cnt_c (fun i hi => by rw [hbit, if_pos hi])
  · have e8 : cnt (fun i => a.testBit i) 8 = cnt (fun i => a.testBit i) 7 := by
      show cnt _ 7 + (if a.testBit 7 = true then 1 else 0) = _
      rw [Nat.testBit_lt_two_pow (show a < 2 ^ 7 by omega)]; rfl
    rw [e8]
    exact cnt_c (fun i _ => by rw [hbit, if_neg (by omega), show 8 + i - 8 = i by omega])
theorem nI_ush {k j : Nat} {v : Int32} (hk : k < 65536) (hj : j < 32) (hv : v = nI j) : ((nI k).toUInt32 >>> (v.toUInt32 &&& Int32.toUInt32 31)).toInt32 = nI (k >>> j) := by subst hv; exact nx_ush hk hj
theorem shr_le (k j : Nat) : k >>> j ≤ k := by rw [Nat.shiftRight_eq_div_pow]; exact Nat.div_le_self _ _
section MATHROWS
variable {G : v_G} {l : Launch} {y : MethodName} {cc : ByteArray} {nL : Nat} {rt : Option FieldType} {Z : Room} {Qc : Array Value → State → Outcome → State → Prop} {cells slots pc : Nat} {lv : List (Option Value)} {st : List Value} {M : v_MM}
theorem v_mabs {idx : Nat} {v : Int32} (hw : Cond.methodLink y.cls idx Lib.Math.abs.name ∈ wsG) (hz : 1 ≤ Z.frames ∧ (st.map fun v => v.category).sum + 13 ≤ Z.locals) (hc : cells ≤ Z.cells ∧ slots ≤ Z.slots) (hd : decode cc pc = .ok (.invokestatic idx, 3)) (kk : v_V G l y cc nL rt Z Qc cells slots (pc + 3) lv (.int (if 0 ≤ v then v else 0 - v) :: st) M) : v_V G l y cc nL rt Z Qc cells slots pc lv (.int v :: st) M := by
  intro p e s m args below meth c H locs ls C P L
  have T := C.2.2.2.2.1
  exact va_mabs C.1 C.2.1 (by rw [C.2.2.1]; exact L.1.1.symm) C.2.2.2.1 (T _ hw) (T _ wg_500) (T _ wg_88) (T _ wg_501) hz.1 (by rw [v_catsum]; exact hz.2) hc.1 hc.2 hd (kk p e s m args below meth c H locs ls C P L)
theorem v_mmax {idx : Nat} {a b : Nat} (ha : a < 2 ^ 31 ∧ b < 2 ^ 31) (hw : Cond.methodLink y.cls idx Lib.Math.max.name ∈ wsG) (hz : 1 ≤ Z.frames ∧ (st.map fun v => v.category).sum + 13 ≤ Z.locals) (hc : cells ≤ Z.cells ∧ slots ≤ Z.slots) (hd : decode cc pc = .ok (.invokestatic idx, 3)) (kk : v_V G l y cc nL rt Z Qc cells slots (pc + 3) lv (.int (nI (max a b)) :: st) M) : v_V G l y cc nL rt Z Qc cells slots pc lv (.int (nI b) :: .int (nI a) :: st) M := by
  intro p e s m args below meth c H locs ls C P L
  have T := C.2.2.2.2.1
  refine va_mmax C.1 C.2.1 (by rw [C.2.2.1]; exact L.1.1.symm) C.2.2.2.1 (T _ hw) (T _ wg_528) (T _ wg_88) (T _ wg_529) hz.1 (by rw [v_catsum]; exact hz.2) hc.1 hc.2 hd ?_
  have e1 : (if nI a < nI b then nI b else nI a) = nI (max a b) := by
    split
    · rename_i h
      rw [Int32.lt_iff_toInt_lt, nI_toInt (by omega), nI_toInt (by omega)] at h
      exact congrArg nI (by omega)
    · rename_i h
      rw [Int32.lt_iff_toInt_lt, nI_toInt (by omega), nI_toInt (by omega)] at h
      exact congrArg nI (by omega)
  rw [e1]
  exact kk p e s m args below meth c H locs ls C P L
theorem v_mmin {idx : Nat} {a b : Nat} (ha : a < 2 ^ 31 ∧ b < 2 ^ 31) (hw : Cond.methodLink y.cls idx Lib.Math.min.name ∈ wsG) (hz : 1 ≤ Z.frames ∧ (st.map fun v => v.category).sum + 13 ≤ Z.locals) (hc : cells ≤ Z.cells ∧ slots ≤ Z.slots) (hd : decode cc pc = .ok (.invokestatic idx, 3)) (kk : v_V G l y cc nL rt Z Qc cells slots (pc + 3) lv (.int (nI (min a b)) :: st) M) : v_V G l y cc nL rt Z Qc cells slots pc lv (.int (nI b) :: .int (nI a) :: st) M := by
  intro p e s m args below meth c H locs ls C P L
  have T := C.2.2.2.2.1
  refine va_mmin C.1 C.2.1 (by rw [C.2.2.1]; exact L.1.1.symm) C.2.2.2.1 (T _ hw) (T _ wg_531) (T _ wg_88) (T _ wg_532) hz.1 (by rw [v_catsum]; exact hz.2) hc.1 hc.2 hd ?_
  have e1 : (if nI b < nI a then nI b else nI a) = nI (min a b) := by
    split
    · rename_i h
      rw [Int32.lt_iff_toInt_lt, nI_toInt (by omega), nI_toInt (by omega)] at h
      exact congrArg nI (by omega)
    · rename_i h
      rw [Int32.lt_iff_toInt_lt, nI_toInt (by omega), nI_toInt (by omega)] at h
      exact congrArg nI (by omega)
  rw [e1]
  exact kk p e s m args below meth c H locs ls C P L
end MATHROWS
theorem v_absN {a b : Nat} (ha : a < 100000 ∧ b < 100000) : (if 0 ≤ nI a - nI b then nI a - nI b else 0 - (nI a - nI b)) = nI ((a - b) + (b - a)) := by
  have e1 := pk_sub_toInt (show a < 2 ^ 30 by omega) (show b < 2 ^ 30 by omega)
  have e0 : (0 : Int32).toInt = 0 := rfl
  split
  · rename_i h
    rw [Int32.le_iff_toInt_le, e1, e0] at h
    rw [show a - b + (b - a) = a - b by omega]; exact pk_sub (by omega)
  · rename_i h
    rw [Int32.le_iff_toInt_le, e1, e0] at h
    rw [Int32.zero_sub, Int32.neg_sub, show a - b + (b - a) = b - a by omega]; exact pk_sub (by omega)
theorem k55 : (1431655765 : Int32) = nI 1431655765 := rfl
theorem k33 : (858993459 : Int32) = nI 858993459 := rfl
theorem k0f : (252645135 : Int32) = nI 252645135 := rfl
abbrev rm_X11_asNumber : Room := { frames := 0, cells := 0, slots := 0, locals := 0 }
set_option maxRecDepth 20000 in
theorem c_X11_asNumber (G : v_G) (l : Launch) {K : Nat × v_TY} {I : Nat → Nat → Int32} {J : Nat → Nat → Int64} {R : Nat → Nat → Option Nat} {a : Bool} : v_M G l yX11_asNumber cX11_asNumber 1 (some .int) rm_X11_asNumber [.int (v_p (a = true))] (K, I, J, R) (v_Qi G (fun (x : Int32) (M' : v_MM) => x = nI (if a = true then 1 else 0) ∧ M' = (K, I, J, R))) := by
  refine v_of [some (.int (v_p (a = true)))] (by decide) (Nat.le_of_ble_eq_true rfl) (Nat.le_of_ble_eq_true rfl) rfl ?_
  refine v_iload_n (pc := 0) dX11_asNumber_0 rfl rfl ?_
  refine v_if_eqP (pc := 1) (tgt := 8) dX11_asNumber_1 (by decide) (fun c1 => ?_) (fun c1 => ?_)
  · refine v_iconst (pc := 8) (v := nI 0) dX11_asNumber_8 (by decide) ?_
    exact v_iret (pc := 9) dX11_asNumber_9 rfl rfl (Nat.le_of_ble_eq_true rfl) (Nat.le_of_ble_eq_true rfl) ⟨by first | rw [if_pos c1] | rw [if_neg c1], rfl⟩
  · refine v_iconst (pc := 4) (v := nI 1) dX11_asNumber_4 (by decide) ?_
    refine v_goto (pc := 5) (tgt := 9) dX11_asNumber_5 (by decide) ?_
    exact v_iret (pc := 9) dX11_asNumber_9 rfl rfl (Nat.le_of_ble_eq_true rfl) (Nat.le_of_ble_eq_true rfl) ⟨by first | rw [if_pos c1] | rw [if_neg c1], rfl⟩
abbrev rm_X11_hasBit : Room := { frames := 0, cells := 0, slots := 0, locals := 0 }
set_option maxRecDepth 20000 in
theorem c_X11_hasBit (G : v_G) (l : Launch) {K : Nat × v_TY} {I : Nat → Nat → Int32} {J : Nat → Nat → Int64} {R : Nat → Nat → Option Nat} {s : Int32} {k : Nat} (hk : k < 32) : v_M G l yX11_hasBit cX11_hasBit 2 (some .boolean) rm_X11_hasBit [.int s, .int (nI k)] (K, I, J, R) (v_Qi G (fun (x : Int32) (M' : v_MM) => x = v_p (bt s k = true) ∧ M' = (K, I, J, R))) := by
  refine v_of [some (.int s), some (.int (nI k))] (by decide) (Nat.le_of_ble_eq_true rfl) (Nat.le_of_ble_eq_true rfl) rfl ?_
  refine v_iload_n (pc := 0) dX11_hasBit_0 rfl rfl ?_
  refine v_iload_n (pc := 1) dX11_hasBit_1 rfl rfl ?_
  refine v_ishr (pc := 2) dX11_hasBit_2 ?_
  refine v_iconst (pc := 3) (v := nI 1) dX11_hasBit_3 (by decide) ?_
  refine v_iand (pc := 4) dX11_hasBit_4 ?_
  refine v_iconst (pc := 5) (v := nI 1) dX11_hasBit_5 (by decide) ?_
  refine v_icmp_ne (pc := 6) (tgt := 13) dX11_hasBit_6 (by decide) (fun c6 => ?_) (fun c6 => ?_)
  · refine v_iconst (pc := 13) (v := nI 0) dX11_hasBit_13 (by decide) ?_
    exact v_iret (pc := 14) dX11_hasBit_14 rfl rfl (Nat.le_of_ble_eq_true rfl) (Nat.le_of_ble_eq_true rfl) ⟨by first | exact v_pz (fun q => c6 ((v_hasI hk).mpr q)) | exact v_po ((v_hasI hk).mp (Classical.not_not.mp c6)) | exact v_po ((v_hasI hk).mp c6), rfl⟩
  · refine v_iconst (pc := 9) (v := nI 1) dX11_hasBit_9 (by decide) ?_
    refine v_goto (pc := 10) (tgt := 14) dX11_hasBit_10 (by decide) ?_
    exact v_iret (pc := 14) dX11_hasBit_14 rfl rfl (Nat.le_of_ble_eq_true rfl) (Nat.le_of_ble_eq_true rfl) ⟨by first | exact v_pz (fun q => c6 ((v_hasI hk).mpr q)) | exact v_po ((v_hasI hk).mp (Classical.not_not.mp c6)) | exact v_po ((v_hasI hk).mp c6), rfl⟩
abbrev rm_X11_isTape : Room := { frames := 0, cells := 0, slots := 0, locals := 0 }
set_option maxRecDepth 20000 in
theorem c_X11_isTape (G : v_G) (l : Launch) {K : Nat × v_TY} {I : Nat → Nat → Int32} {J : Nat → Nat → Int64} {R : Nat → Nat → Option Nat} {tt : Int32} : v_M G l yX11_isTape cX11_isTape 1 (some .boolean) rm_X11_isTape [.int tt] (K, I, J, R) (v_Qi G (fun (x : Int32) (M' : v_MM) => x = v_p (vp_in tt 6) ∧ M' = (K, I, J, R))) := by
  refine v_of [some (.int tt)] (by decide) (Nat.le_of_ble_eq_true rfl) (Nat.le_of_ble_eq_true rfl) rfl ?_
  refine v_iload_n (pc := 0) dX11_isTape_0 rfl rfl ?_
  refine v_if_lt (pc := 1) (tgt := 14) dX11_isTape_1 (by decide) (fun c1 => ?_) (fun c1 => ?_)
  · refine v_iconst (pc := 14) (v := nI 0) dX11_isTape_14 (by decide) ?_
    exact v_iret (pc := 15) dX11_isTape_15 rfl rfl (Nat.le_of_ble_eq_true rfl) (Nat.le_of_ble_eq_true rfl) ⟨by first | exact v_pz (fun q => ((v_ltI (by decide)).mpr q).1 c1) | exact v_pz (fun q => ((v_ltI (by decide)).mpr q).2 c7) | exact v_po ((v_ltI (by decide)).mp ⟨c1, c7⟩), rfl⟩
  · refine v_iload_n (pc := 4) dX11_isTape_4 rfl rfl ?_
    refine v_bipush (pc := 5) (v := nI 6) dX11_isTape_5 (by decide) ?_
    refine v_icmp_ge (pc := 7) (tgt := 14) dX11_isTape_7 (by decide) (fun c7 => ?_) (fun c7 => ?_)
    · refine v_iconst (pc := 14) (v := nI 0) dX11_isTape_14 (by decide) ?_
      exact v_iret (pc := 15) dX11_isTape_15 rfl rfl (Nat.le_of_ble_eq_true rfl) (Nat.le_of_ble_eq_true rfl) ⟨by first | exact v_pz (fun q => ((v_ltI (by decide)).mpr q).1 c1) | exact v_pz (fun q => ((v_ltI (by decide)).mpr q).2 c7) | exact v_po ((v_ltI (by decide)).mp ⟨c1, c7⟩), rfl⟩
    · refine v_iconst (pc := 10) (v := nI 1) dX11_isTape_10 (by decide) ?_
      refine v_goto (pc := 11) (tgt := 15) dX11_isTape_11 (by decide) ?_
      exact v_iret (pc := 15) dX11_isTape_15 rfl rfl (Nat.le_of_ble_eq_true rfl) (Nat.le_of_ble_eq_true rfl) ⟨by first | exact v_pz (fun q => ((v_ltI (by decide)).mpr q).1 c1) | exact v_pz (fun q => ((v_ltI (by decide)).mpr q).2 c7) | exact v_po ((v_ltI (by decide)).mp ⟨c1, c7⟩), rfl⟩
abbrev rm_J7_fill_53178 : Room := { frames := 0, cells := 0, slots := 0, locals := 0 }
set_option maxRecDepth 20000 in
theorem c_J7_fill_53178 (G : v_G) (l : Launch) {K : Nat × v_TY} {I : Nat → Nat → Int32} {J : Nat → Nat → Int64} {R : Nat → Nat → Option Nat} {a n : Nat} {v : Int32} (ha : v_is K a 14 n) (hn : n < 1000) : v_M G l yJ7_fill_53178 cJ7_fill_53178 4 none rm_J7_fill_53178 [.ref a, .int v] (K, I, J, R) (v_Qv G (fun (M' : v_MM) => M' = (K, v_to I a (fun _ => v) n, J, R))) := by
  refine v_of [some (.ref a), some (.int v), none, none] (by decide) (Nat.le_of_ble_eq_true rfl) (Nat.le_of_ble_eq_true rfl) rfl ?_
  refine v_iconst (pc := 0) (v := nI 0) dJ7_fill_53178_0 (by decide) ?_
  refine v_istore_n (pc := 1) dJ7_fill_53178_1 rfl (by decide) rfl ?_
  refine v_aload_n (pc := 2) dJ7_fill_53178_2 rfl rfl ?_
  refine v_alen (pc := 3) (v := _) dJ7_fill_53178_3 ha (by decide) rfl ?_
  refine v_top (show Int32.ofNat n = nI n from rfl) ?_
  refine v_istore_n (pc := 4) dJ7_fill_53178_4 rfl (by decide) rfl ?_
  have key : ∀ i, i ≤ n → v_V G l yJ7_fill_53178 cJ7_fill_53178 4 none rm_J7_fill_53178 (v_Qv G (fun (M' : v_MM) => M' = (K, v_to I a (fun _ => v) n, J, R))) 0 0 5 [some (.ref a), some (.int v), some (.int (nI i)), some (.int (nI n))] [] (K, v_to I a (fun _ => v) i, J, R) := by
    refine v_down n (fun i hi ih => ?_)
    refine v_iload_n (pc := 5) dJ7_fill_53178_5 rfl rfl ?_
    refine v_iload_n (pc := 6) dJ7_fill_53178_6 rfl rfl ?_
    refine v_icmp_geN (pc := 7) (tgt := 20) ⟨by omega, by omega⟩ dJ7_fill_53178_7 (by decide) (fun c7 => ?_) (fun c7 => ?_)
    · exact v_vret (pc := 20) dJ7_fill_53178_20 rfl (Nat.le_of_ble_eq_true rfl) (Nat.le_of_ble_eq_true rfl) (by rw [show i = n by omega])
    · refine v_aload_n (pc := 10) dJ7_fill_53178_10 rfl rfl ?_
      refine v_iload_n (pc := 11) dJ7_fill_53178_11 rfl rfl ?_
      refine v_iload_n (pc := 12) dJ7_fill_53178_12 rfl rfl ?_
      refine v_iastoreN (pc := 13) dJ7_fill_53178_13 ha ⟨by omega, by omega⟩ ?_
      refine v_iincN (pc := 14) (b := 1) dJ7_fill_53178_14 rfl (by decide) (by decide) rfl ?_
      refine v_goto (pc := 17) (tgt := 5) dJ7_fill_53178_17 (by decide) ?_
      rw [v_to_s (by rfl)]
      exact ih (i + 1) (by omega) (by omega)
  have e0 := key 0 (Nat.zero_le _)
  rw [v_to_0] at e0
  exact e0
abbrev rm_J6_bitCount_0f7a4 : Room := { frames := 0, cells := 0, slots := 0, locals := 0 }
set_option maxRecDepth 20000 in
theorem c_J6_bitCount_0f7a4 (G : v_G) (l : Launch) {K : Nat × v_TY} {I : Nat → Nat → Int32} {J : Nat → Nat → Int64} {R : Nat → Nat → Option Nat} {m : Nat} (hm : m < 32768) : v_M G l yJ6_bitCount_0f7a4 cJ6_bitCount_0f7a4 1 (some .int) rm_J6_bitCount_0f7a4 [.int (nI m)] (K, I, J, R) (v_Qi G (fun (x : Int32) (M' : v_MM) => x = nI (cnt (fun i => m.testBit i) 15) ∧ M' = (K, I, J, R))) := by
  refine v_of [some (.int (nI m))] (by decide) (Nat.le_of_ble_eq_true rfl) (Nat.le_of_ble_eq_true rfl) rfl ?_
  obtain ⟨x1, e1⟩ : ∃ z, z = m - ((m >>> 1) &&& 1431655765) := ⟨_, rfl⟩
  obtain ⟨x2, e2⟩ : ∃ z, z = (x1 &&& 858993459) + ((x1 >>> 2) &&& 858993459) := ⟨_, rfl⟩
  obtain ⟨x3, e3⟩ : ∃ z, z = (x2 + (x2 >>> 4)) &&& 252645135 := ⟨_, rfl⟩
  obtain ⟨x4, e4⟩ : ∃ z, z = x3 + (x3 >>> 8) := ⟨_, rfl⟩
  obtain ⟨x5, e5⟩ : ∃ z, z = x4 + (x4 >>> 16) := ⟨_, rfl⟩
  obtain ⟨f0, f1, f2, f3, f4, f5⟩ := pc_run hm x1 x2 x3 x4 x5 e1 e2 e3 e4 e5
  refine v_iload_n (pc := 0) dJ6_bitCount_0f7a4_0 rfl rfl ?_
  refine v_iload_n (pc := 1) dJ6_bitCount_0f7a4_1 rfl rfl ?_
  refine v_iconst (pc := 2) (v := nI 1) dJ6_bitCount_0f7a4_2 (by decide) ?_
  refine v_iushr (pc := 3) dJ6_bitCount_0f7a4_3 rfl ?_
  refine v_top (nI_ush (by omega) (by decide) rfl) ?_
  refine v_ldcw (pc := 4) ld_J6_265 dJ6_bitCount_0f7a4_4 ?_
  refine v_iand (pc := 7) dJ6_bitCount_0f7a4_7 ?_
  refine v_top (show nI (m >>> 1) &&& (1431655765 : Int32) = nI ((m >>> 1) &&& 1431655765) by rw [k55]; exact nx_and _ _) ?_
  refine v_isubN (pc := 8) f1 dJ6_bitCount_0f7a4_8 ?_
  refine v_top (show nI (m - ((m >>> 1) &&& 1431655765)) = nI x1 by rw [e1]) ?_
  refine v_istore_n (pc := 9) dJ6_bitCount_0f7a4_9 rfl (by decide) rfl ?_
  refine v_iload_n (pc := 10) dJ6_bitCount_0f7a4_10 rfl rfl ?_
  refine v_ldcw (pc := 11) ld_J6_266 dJ6_bitCount_0f7a4_11 ?_
  refine v_iand (pc := 14) dJ6_bitCount_0f7a4_14 ?_
  refine v_top (show nI x1 &&& (858993459 : Int32) = nI (x1 &&& 858993459) by rw [k33]; exact nx_and _ _) ?_
  refine v_iload_n (pc := 15) dJ6_bitCount_0f7a4_15 rfl rfl ?_
  refine v_iconst (pc := 16) (v := nI 2) dJ6_bitCount_0f7a4_16 (by decide) ?_
  refine v_iushr (pc := 17) dJ6_bitCount_0f7a4_17 rfl ?_
  refine v_top (nI_ush (by omega) (by decide) rfl) ?_
  refine v_ldcw (pc := 18) ld_J6_266 dJ6_bitCount_0f7a4_18 ?_
  refine v_iand (pc := 21) dJ6_bitCount_0f7a4_21 ?_
  refine v_top (show nI (x1 >>> 2) &&& (858993459 : Int32) = nI ((x1 >>> 2) &&& 858993459) by rw [k33]; exact nx_and _ _) ?_
  refine v_iaddN (pc := 22) dJ6_bitCount_0f7a4_22 ?_
  refine v_top (show nI ((x1 &&& 858993459) + ((x1 >>> 2) &&& 858993459)) = nI x2 by rw [e2]) ?_
  refine v_istore_n (pc := 23) dJ6_bitCount_0f7a4_23 rfl (by decide) rfl ?_
  refine v_iload_n (pc := 24) dJ6_bitCount_0f7a4_24 rfl rfl ?_
  refine v_iload_n (pc := 25) dJ6_bitCount_0f7a4_25 rfl rfl ?_
  refine v_iconst (pc := 26) (v := nI 4) dJ6_bitCount_0f7a4_26 (by decide) ?_
  refine v_iushr (pc := 27) dJ6_bitCount_0f7a4_27 rfl ?_
  refine v_top (nI_ush (by omega) (by decide) rfl) ?_
  refine v_iaddN (pc := 28) dJ6_bitCount_0f7a4_28 ?_
  refine v_ldcw (pc := 29) ld_J6_267 dJ6_bitCount_0f7a4_29 ?_
  refine v_iand (pc := 32) dJ6_bitCount_0f7a4_32 ?_
  refine v_top (show nI (x2 + x2 >>> 4) &&& (252645135 : Int32) = nI x3 by rw [e3, k0f]; exact nx_and _ _) ?_
  refine v_istore_n (pc := 33) dJ6_bitCount_0f7a4_33 rfl (by decide) rfl ?_
  refine v_iload_n (pc := 34) dJ6_bitCount_0f7a4_34 rfl rfl ?_
  refine v_iload_n (pc := 35) dJ6_bitCount_0f7a4_35 rfl rfl ?_
  refine v_bipush (pc := 36) (v := nI 8) dJ6_bitCount_0f7a4_36 (by decide) ?_
  refine v_iushr (pc := 38) dJ6_bitCount_0f7a4_38 rfl ?_
  refine v_top (nI_ush (by omega) (by decide) rfl) ?_
  refine v_iaddN (pc := 39) dJ6_bitCount_0f7a4_39 ?_
  refine v_top (show nI (x3 + x3 >>> 8) = nI x4 by rw [e4]) ?_
  refine v_istore_n (pc := 40) dJ6_bitCount_0f7a4_40 rfl (by decide) rfl ?_
  refine v_iload_n (pc := 41) dJ6_bitCount_0f7a4_41 rfl rfl ?_
  refine v_iload_n (pc := 42) dJ6_bitCount_0f7a4_42 rfl rfl ?_
  refine v_bipush (pc := 43) (v := nI 16) dJ6_bitCount_0f7a4_43 (by decide) ?_
  refine v_iushr (pc := 45) dJ6_bitCount_0f7a4_45 rfl ?_
  refine v_top (nI_ush (by omega) (by decide) rfl) ?_
  refine v_iaddN (pc := 46) dJ6_bitCount_0f7a4_46 ?_
  refine v_top (show nI (x4 + x4 >>> 16) = nI x5 by rw [e5]) ?_
  refine v_istore_n (pc := 47) dJ6_bitCount_0f7a4_47 rfl (by decide) rfl ?_
  refine v_iload_n (pc := 48) dJ6_bitCount_0f7a4_48 rfl rfl ?_
  refine v_bipush (pc := 49) (v := nI 63) dJ6_bitCount_0f7a4_49 (by decide) ?_
  refine v_iand (pc := 51) dJ6_bitCount_0f7a4_51 ?_
  refine v_top (nx_and _ _) ?_
  exact v_iret (pc := 52) dJ6_bitCount_0f7a4_52 rfl rfl (Nat.le_of_ble_eq_true rfl) (Nat.le_of_ble_eq_true rfl) ⟨by rw [f0], rfl⟩
