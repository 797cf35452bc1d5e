/-! STATICS, TEXTS, KINDS, COPIES -/
section VROWS5
variable {G : v_G} {l : Launch} {y : MethodName} {cc : ByteArray} {nL : Nat} {rt : Option FieldType} {Z : Room} {Qc : Array Value → State → Outcome → State → Prop} {cells slots pc : Nat} {lv : List (Option Value)} {st : List Value} {M : v_MM}
variable {K : Nat × v_TY} {I : Nat → Nat → Int32} {J : Nat → Nat → Int64} {R : Nat → Nat → Option Nat} {h n : Nat}
/-- LESSER and GREATER: their array, by the class itself or by one inside it -/
theorem v_gets {idx i : Nat} {nm : String} (hi : i = 0 ∧ nm = "LESSER" ∨ i = 1 ∧ nm = "GREATER") (hw : Cond.fieldLink y.cls idx "OneFriend" nm "[I" ∈ wsG ∨ Cond.fieldLinkNest y.cls idx "OneFriend" nm "[I" "OneFriend" ∈ wsN) (hd : decode cc pc = .ok (.getstatic idx, 3)) (kk : v_V G l y cc nL rt Z Qc cells slots (pc + 3) lv (.ref (1000000 + i) :: st) M) : v_V G l y cc nL rt Z Qc cells slots pc lv st M := by
  intro p e s m args below meth c H locs ls C P L
  have k2 := kk p e s m args below meth c H locs ls C P L
  rw [List.map_cons, v_tv_ref, v_ad_x] at k2
  have hX := C.2.2.2.2.2.2.2.2.2.1
  rcases hi with ⟨rfl, rfl⟩ | ⟨rfl, rfl⟩ <;> rcases hw with hw | hw
  · exact va_gets C.1 C.2.1 hX.2.2.1.1 P.2.2.2 C.2.2.2.1 (C.2.2.2.2.1 _ hw) (fun _ h => h) hd k2
  · exact va_getsN C.1 C.2.1 hX.2.2.1.1 P.2.2.2 C.2.2.2.1 (va_Nw.use (A := args) rfl (hX.1 _ hw)) (fun _ h => h) hd k2
  · exact va_gets C.1 C.2.1 hX.2.2.2.1.1 P.2.2.2 C.2.2.2.1 (C.2.2.2.2.1 _ hw) (fun _ h => h) hd k2
  · exact va_getsN C.1 C.2.1 hX.2.2.2.1.1 P.2.2.2 C.2.2.2.1 (va_Nw.use (A := args) rfl (hX.1 _ hw)) (fun _ h => h) hd k2
theorem v_stld0 {i x : Int32} (hin : vp_in i 15) (hx : v_les i.toNatClampNeg = .int x) (hd : decode cc pc = .ok (.iaload, 1)) (kk : v_V G l y cc nL rt Z Qc cells slots (pc + 1) lv (.int x :: st) M) : v_V G l y cc nL rt Z Qc cells slots pc lv (.int i :: .ref (1000000 + 0) :: st) M := by
  intro p e s m args below meth c H locs ls C P L
  rw [List.map_cons, List.map_cons, v_tv_ref, v_ad_x]
  exact va_ti C.1 C.2.1 C.2.2.2.2.2.2.2.2.2.1.2.2.1.2 P.2.2.2 hin hx hd (kk p e s m args below meth c H locs ls C P L)
theorem v_stld1 {i x : Int32} (hin : vp_in i 15) (hx : v_gre i.toNatClampNeg = .int x) (hd : decode cc pc = .ok (.iaload, 1)) (kk : v_V G l y cc nL rt Z Qc cells slots (pc + 1) lv (.int x :: st) M) : v_V G l y cc nL rt Z Qc cells slots pc lv (.int i :: .ref (1000000 + 1) :: st) M := by
  intro p e s m args below meth c H locs ls C P L
  rw [List.map_cons, List.map_cons, v_tv_ref, v_ad_x]
  exact va_ti C.1 C.2.1 C.2.2.2.2.2.2.2.2.2.1.2.2.2.1.2 P.2.2.2 hin hx hd (kk p e s m args below meth c H locs ls C P L)
theorem v_getsC {idx : Nat} (hw : Cond.fieldLink y.cls idx "java/lang/String" "COMPACT_STRINGS" "Z" ∈ wsG) (hd : decode cc pc = .ok (.getstatic idx, 3)) (kk : v_V G l y cc nL rt Z Qc cells slots (pc + 3) lv (.int 1 :: st) M) : v_V G l y cc nL rt Z Qc cells slots pc lv st M :=
  fun p e s m args below meth c H locs ls C P L => va_gets C.1 C.2.1 C.2.2.2.2.2.2.2.2.2.1.2.2.2.2.1.1 P.2.2.2 C.2.2.2.1 (C.2.2.2.2.1 _ hw) (fun _ h => h) hd (kk p e s m args below meth c H locs ls C P L)
theorem v_getsQ {idx : Nat} (hw : Cond.fieldLink y.cls idx "jdk/internal/util/Preconditions" "SIOOBE_FORMATTER" "Ljava/util/function/BiFunction;" ∈ wsG) (hd : decode cc pc = .ok (.getstatic idx, 3)) (kk : ∀ r : Option Nat, v_V G l y cc nL rt Z Qc cells slots (pc + 3) lv (va_rf r :: st) M) : v_V G l y cc nL rt Z Qc cells slots pc lv st M := by
  intro p e s m args below meth c H locs ls C P L
  rcases C.2.2.2.2.2.2.2.2.2.1.2.2.2.2.1.2 with hz | hz
  · exact va_gets C.1 C.2.1 hz P.2.2.2 C.2.2.2.1 (C.2.2.2.2.1 _ hw) (fun _ h => h) hd (kk none p e s m args below meth c H locs ls C P L)
  · have k2 := kk (some (1000000 + 2)) p e s m args below meth c H locs ls C P L
    rw [List.map_cons, show va_rf (some (1000000 + 2)) = .ref (1000000 + 2) from rfl, v_tv_ref, v_ad_x] at k2
    exact va_gets C.1 C.2.1 hz P.2.2.2 C.2.2.2.1 (C.2.2.2.2.1 _ hw) (fun _ h => h) hd k2
/-- a text's own fields, its bytes -/
theorem v_txV {idx i : Nat} (hi : i < 7) (hw : Cond.fieldLink y.cls idx "java/lang/String" "value" "[B" ∈ wsG) (hd : decode cc pc = .ok (.getfield idx, 3)) (kk : v_V G l y cc nL rt Z Qc cells slots (pc + 3) lv (.ref (1000000 + (20 + i)) :: st) M) : v_V G l y cc nL rt Z Qc cells slots pc lv (.ref (1000000 + (10 + i)) :: st) M := by
  intro p e s m args below meth c H locs ls C P L
  have k2 := kk p e s m args below meth c H locs ls C P L
  rw [List.map_cons, v_tv_ref, v_ad_x] at k2 ⊢
  exact vk_getf C.1 C.2.1 ((C.2.2.2.2.2.2.2.2.2.1.2.2.2.2.2.1).1 i hi).2.2.1 P.2.2.2 C.2.2.2.1 (C.2.2.2.2.1 _ hw) (fun _ h => h) hd k2
theorem v_txC {idx i : Nat} (hi : i < 7) (hw : Cond.fieldLink y.cls idx "java/lang/String" "coder" "B" ∈ wsG) (hd : decode cc pc = .ok (.getfield idx, 3)) (kk : v_V G l y cc nL rt Z Qc cells slots (pc + 3) lv (.int 0 :: st) M) : v_V G l y cc nL rt Z Qc cells slots pc lv (.ref (1000000 + (10 + i)) :: st) M := by
  intro p e s m args below meth c H locs ls C P L
  have k2 := kk p e s m args below meth c H locs ls C P L
  rw [List.map_cons, v_tv_ref, v_ad_x]
  exact vk_getf C.1 C.2.1 ((C.2.2.2.2.2.2.2.2.2.1.2.2.2.2.2.1).1 i hi).2.1 P.2.2.2 C.2.2.2.1 (C.2.2.2.2.1 _ hw) (fun _ h => h) hd k2
theorem v_txL {i : Nat} (hi : i < 7) (hd : decode cc pc = .ok (.arraylength, 1)) (kk : v_V G l y cc nL rt Z Qc cells slots (pc + 1) lv (.int (Int32.ofNat (v_tln.getD i 0)) :: st) M) : v_V G l y cc nL rt Z Qc cells slots pc lv (.ref (1000000 + (20 + i)) :: st) M := by
  intro p e s m args below meth c H locs ls C P L
  have k2 := kk p e s m args below meth c H locs ls C P L
  rw [List.map_cons, v_tv_ref, v_ad_x]
  exact va_tlen C.1 C.2.1 ((C.2.2.2.2.2.2.2.2.2.1.2.2.2.2.2.1).1 i hi).2.2.2 P.2.2.2 rfl hd k2
theorem v_txB {i : Nat} {j : Int32} (hi : i < 7) (hin : vp_in j (v_tln.getD i 0)) (hd : decode cc pc = .ok (.baload, 1)) (kk : v_V G l y cc nL rt Z Qc cells slots (pc + 1) lv (.int ((v_tby.getD i []).getD j.toNatClampNeg 0) :: st) M) : v_V G l y cc nL rt Z Qc cells slots pc lv (.int j :: .ref (1000000 + (20 + i)) :: st) M := by
  intro p e s m args below meth c H locs ls C P L
  have k2 := kk p e s m args below meth c H locs ls C P L
  rw [List.map_cons, List.map_cons, v_tv_ref, v_ad_x]
  exact va_tb C.1 C.2.1 ((C.2.2.2.2.2.2.2.2.2.1.2.2.2.2.2.1).1 i hi).2.2.2 P.2.2.2 hin rfl hd k2
/-- instanceof, of a handle -/
theorem v_instY {idx ci : Nat} {q : vw_C} {nm : String} (hi : v_is K h ci n) (hk : ci < 13) (hq : vwCl[ci]? = some q) (hw : Cond.classLink y.cls idx nm ∈ wsG) (hc : q.1 = nm ∨ Cond.castable q.1 nm ∈ wsN) (hd : decode cc pc = .ok (.instanceof idx, 3)) (kk : v_V G l y cc nL rt Z Qc cells slots (pc + 3) lv (.int 1 :: st) (K, I, J, R)) : v_V G l y cc nL rt Z Qc cells slots pc lv (.ref h :: st) (K, I, J, R) := by
  intro p e s m args below meth c H locs ls C P L
  have hr := v_rcO hi hq hk s H locs C.2.2.2.2.2.2.2.2.1 C.2.2.2.2.2.2.2.2.2.1 P
  rcases hc with hc | hc
  · subst hc
    exact va_instS C.1 C.2.1 C.2.2.2.1 (C.2.2.2.2.1 _ hw) (C.2.2.2.2.2.2.2.2.1.1 ci q hq).2 hr hd (kk p e s m args below meth c H locs ls C P L)
  · exact va_instY C.1 C.2.1 C.2.2.2.1 (C.2.2.2.2.1 _ hw) (C.2.2.2.2.2.2.2.2.2.1.1 _ hc) hr hd (kk p e s m args below meth c H locs ls C P L)
theorem v_instN {idx ci : Nat} {q : vw_C} {nm : String} (hi : v_is K h ci n) (hk : ci < 13) (hq : vwCl[ci]? = some q) (hw : Cond.classLink y.cls idx nm ∈ wsG) (hc : (q.1, nm) ∈ v_nc) (hd : decode cc pc = .ok (.instanceof idx, 3)) (kk : v_V G l y cc nL rt Z Qc cells slots (pc + 3) lv (.int 0 :: st) (K, I, J, R)) : v_V G l y cc nL rt Z Qc cells slots pc lv (.ref h :: st) (K, I, J, R) := by
  intro p e s m args below meth c H locs ls C P L
  exact va_instNo C.1 C.2.1 C.2.2.2.1 (C.2.2.2.2.1 _ hw) (C.2.2.2.2.2.2.2.2.2.1.2.1 _ hc) (v_rcO hi hq hk s H locs C.2.2.2.2.2.2.2.2.1 C.2.2.2.2.2.2.2.2.2.1 P) hd (kk p e s m args below meth c H locs ls C P L)
/-- Object's own constructor -/
theorem v_objInit {idx : Nat} (hw : Cond.methodLink y.cls idx Lib.objectInit ∈ wsG) (hw2 : Cond.instanceMethod Lib.objectInit ∈ wsG) (hw3 : Cond.code Lib.objectInit ⟨#[0xb1]⟩ 1 none ∈ wsG) (hd : decode cc pc = .ok (.invokespecial idx, 3)) (hf : 1 ≤ Z.frames) (hz : (st.map fun v => v.category).sum + 12 ≤ Z.locals) (kk : v_V G l y cc nL rt Z Qc cells slots (pc + 3) lv st M) : v_V G l y cc nL rt Z Qc cells slots pc lv (.ref h :: st) M := by
  intro p e s m args below meth c H locs ls C P L
  have T := C.2.2.2.2.1
  exact W.objInit C.1 C.2.1 C.2.2.2.1 (T _ hw) (T _ hw2) (T _ hw3) rfl (by rw [C.2.2.1]; exact L.1.1) rfl hd hf (by rw [v_catsum]; show 2 * 0 + _ + 12 ≤ _; omega) (kk p e s m args below meth c H locs ls C P L)
end VROWS5
