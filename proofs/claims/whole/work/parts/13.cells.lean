/-! NEW CELLS, STATICS, TEXTS, KINDS, COPIES -/
def v_z {α : Type} (f : Nat → Nat → α) (h : Nat) (x : α) : Nat → Nat → α := fun a b => if a = h then x else f a b
theorem v_z_same {α : Type} {f : Nat → Nat → α} {h b : Nat} {x : α} : v_z f h x h b = x := by simp [v_z]
theorem v_z_h {α : Type} {f : Nat → Nat → α} {h a b : Nat} {x : α} (n : a ≠ h) : v_z f h x a b = f a b := by simp [v_z, n]
/-- one more handle, of a kind and a length -/
def v_k (K : Nat × v_TY) (k len : Nat) : Nat × v_TY := (K.1 + 1, va_up K.2 K.1 (k, len))
theorem v_is_old {K : Nat × v_TY} {h k n k' n' : Nat} (hi : v_is K h k n) : v_is (v_k K k' n') h k n := ⟨Nat.lt_succ_of_lt hi.1, by rw [← hi.2]; simp [v_k, va_up, Nat.ne_of_lt hi.1]⟩
theorem v_is_new {K : Nat × v_TY} {k n : Nat} : v_is (v_k K k n) K.1 k n := ⟨Nat.lt_succ_self _, by simp [v_k, va_up]⟩
section VROWS4
variable {G : v_G} {l : Launch} {y : MethodName} {cc : ByteArray} {nL : Nat} {rt : Option FieldType} {Z : Room} {Qc : Array Value → State → Outcome → State → Prop} {cells slots pc : Nat} {lv : List (Option Value)} {st : List Value} {M : v_MM}
variable {K : Nat × v_TY} {I : Nat → Nat → Int32} {J : Nat → Nat → Int64} {R : Nat → Nat → Option Nat} {h n : Nat}
theorem v_push {s : State} {H H1 : Heap} {locs : List Loc} {k len : Nat} {e : va_E} (P : v_Rp G (K, I, J, R) s H locs) (hn : K.1 + 1 ≤ 1000000) (he : v_cell G (v_k K k len) (v_z I K.1 0) (v_z J K.1 0) (v_z R K.1 none) K.1 = e) (hat : va_at G.1 vwCl (H.size, e) H1) (z : H1.size = H.size + 1) (oq : ∀ q : Nat, q < H.size → H1[q]? = H[q]?) : v_Rp G (v_k K k len, v_z I K.1 0, v_z J K.1 0, v_z R K.1 none) s H1 locs ∧ H.size = v_ad G K.1 := by
  obtain ⟨hP, hsz, hn0, hS⟩ := P
  have had : H.size = v_ad G K.1 := by rw [v_ad_lt (by omega)]; exact hsz
  have hk : ∀ (i : Nat) (x : Nat × va_E), (v_ws G (K, I, J, R))[i]? = some x → H1[x.1]? = H[x.1]? := fun i x hx => oq x.1 ((hP i x hx).lt)
  have hcell : ∀ i : Nat, i < K.1 → v_cell G (v_k K k len) (v_z I K.1 0) (v_z J K.1 0) (v_z R K.1 none) i = v_cell G K I J R i := by
    intro i hi
    have hne : i ≠ K.1 := Nat.ne_of_lt hi
    have e1 : v_z I K.1 0 i = I i := by funext b; simp [v_z, hne]
    have e2 : v_z J K.1 0 i = J i := by funext b; simp [v_z, hne]
    have e3 : v_z R K.1 none i = R i := by funext b; simp [v_z, hne]
    have e4 : (v_k K k len).2 i = K.2 i := by simp [v_k, va_up, hne]
    have e5 : ∀ ci, v_fs G (v_z I K.1 0) (v_z R K.1 none) i ci = v_fs G I R i ci := fun ci => by simp [v_fs, e1, e3]
    simp [v_cell, e1, e2, e3, e4, e5]
  have hws : v_ws G (v_k K k len, v_z I K.1 0, v_z J K.1 0, v_z R K.1 none) = v_ws G (K, I, J, R) ++ [(H.size, e)] := by
    unfold v_ws
    show (List.range (K.1 + 1)).map _ = _
    rw [List.range_succ, List.map_append, List.map_cons, List.map_nil, he, ← had]
    congr 1
    exact List.map_congr_left (fun i hi => by rw [hcell i (List.mem_range.mp hi)])
  refine ⟨⟨?_, by rw [z, hsz]; simp [v_k]; omega, hn, ⟨Nat.le_trans hS.1 (by omega), fun x h1 h2 => (oq x (Nat.lt_of_lt_of_le h1 hS.1)).trans (hS.2.1 x h1 h2), hS.2.2⟩⟩, had⟩
  rw [hws]
  refine (hP.kept hk).app (fun i x hx => ?_)
  have hz : i < 1 := (List.getElem?_eq_some_iff.mp hx).1
  rw [show i = 0 by omega] at hx
  cases hx
  exact hat
theorem v_new {idx ci N : Nat} (hg : v_nw y.cls idx ci N) (hd : decode cc pc = .ok (.new idx, 3)) (hn : K.1 + 1 ≤ 1000000) (hcells : cells + 1 ≤ Z.cells) (hslots : slots + N ≤ Z.slots) (kk : v_V G l y cc nL rt Z Qc (cells + 1) (slots + N) (pc + 3) lv (.ref K.1 :: st) (v_k K ci 0, v_z I K.1 0, v_z J K.1 0, v_z R K.1 none)) : v_V G l y cc nL rt Z Qc cells slots pc lv st (K, I, J, R) := by
  intro p e s m args below meth c H locs ls C P L
  obtain ⟨C0, T, ty0, g1, g2, g3, g4, g5, g6, g7, g8, g9⟩ := hg
  have W0 := C.2.2.2.2.1
  have hKn := C.2.2.2.2.2.2.2.2.1.1 ci _ g1
  refine W.newcK C.1 C.2.1 C.2.2.2.1 (W0 _ g4) (W0 _ g5) (W0 _ g6) rfl hd hcells hslots hKn.2.1 rfl fun H1 kC hkC e1 z1 o1 => ?_
  have hfs : ∀ j, j < N → defaultValue (ty0 j) = vp_V (v_fs G (v_z I K.1 0) (v_z R K.1 none) K.1 ci) j := by
    intro j hj
    rw [g7 j hj]
    have hl : j < (v_fl ci).length := by omega
    have hb : (v_fl ci)[j]? = some (v_fl ci)[j] := List.getElem?_eq_getElem hl
    unfold vp_V
    rw [List.getD_eq_getElem?_getD, hb, List.getD_eq_getElem?_getD, v_fs_at hb]
    cases (v_fl ci)[j] <;> simp [v_z, va_rf]
  obtain ⟨P1, had⟩ := v_push (k := ci) (len := 0) P hn (v_cell_obj v_is_new g9) ⟨_, g1, (u_born ty0 W0 g2 hKn hkC e1 g3).to hfs⟩ z1 o1
  have k2 := kk p e s m args below meth c H1 locs ls C P1 L
  rw [List.map_cons, v_tv_ref, ← had] at k2
  exact k2
theorem v_newa_byte {x : Int32} {N : Nat} (hw : Cond.arrayClass .byte ∈ wsG) (hd : decode cc pc = .ok (.newarray .byte, 2)) (hx : ¬ x < 0) (hN : x.toNatClampNeg = N) (hb : N * componentBytes .byte ≤ 536870912) (hn : K.1 + 1 ≤ 1000000) (hcells : cells + 1 ≤ Z.cells) (hslots : slots + N ≤ Z.slots)
    (kk : v_V G l y cc nL rt Z Qc (cells + 1) (slots + N) (pc + 2) lv (.ref K.1 :: st) (v_k K 13 N, v_z I K.1 0, v_z J K.1 0, v_z R K.1 none)) : v_V G l y cc nL rt Z Qc cells slots pc lv (.int x :: st) (K, I, J, R) := by
  intro p e s m args below meth c H locs ls C P L
  refine va_newaK C.1 C.2.1 (atype := .byte) (C.2.2.2.2.1 _ hw) rfl hd rfl hx hN hb hcells hslots rfl fun H1 cA e1 z1 o1 hA hf => ?_
  have hcA : cA = G.2.1 13 := Option.some.inj (hf.symm.trans (C.2.2.2.2.2.2.2.2.1.2 0 _ rfl).2)
  obtain ⟨P1, had⟩ := v_push (k := 13) (len := N) P hn (v_cell_int v_is_new (by omega)) (by
    show H1[H.size]? = some (vp_cell _ _)
    rw [vp_cell_i, e1, hcA]
    congr 2
    funext j
    simp [v_z]
    try rfl) z1 o1
  have k2 := kk p e s m args below meth c H1 locs ls C P1 L
  rw [List.map_cons, v_tv_ref, ← had] at k2
  exact k2
theorem v_newa_int {x : Int32} {N : Nat} (hw : Cond.arrayClass .int ∈ wsG) (hd : decode cc pc = .ok (.newarray .int, 2)) (hx : ¬ x < 0) (hN : x.toNatClampNeg = N) (hb : N * componentBytes .int ≤ 536870912) (hn : K.1 + 1 ≤ 1000000) (hcells : cells + 1 ≤ Z.cells) (hslots : slots + N ≤ Z.slots)
    (kk : v_V G l y cc nL rt Z Qc (cells + 1) (slots + N) (pc + 2) lv (.ref K.1 :: st) (v_k K 14 N, v_z I K.1 0, v_z J K.1 0, v_z R K.1 none)) : v_V G l y cc nL rt Z Qc cells slots pc lv (.int x :: st) (K, I, J, R) := by
  intro p e s m args below meth c H locs ls C P L
  refine va_newaK C.1 C.2.1 (atype := .int) (C.2.2.2.2.1 _ hw) rfl hd rfl hx hN hb hcells hslots rfl fun H1 cA e1 z1 o1 hA hf => ?_
  have hcA : cA = G.2.1 14 := Option.some.inj (hf.symm.trans (C.2.2.2.2.2.2.2.2.1.2 1 _ rfl).2)
  obtain ⟨P1, had⟩ := v_push (k := 14) (len := N) P hn (v_cell_int v_is_new (by omega)) (by
    show H1[H.size]? = some (vp_cell _ _)
    rw [vp_cell_i, e1, hcA]
    congr 2
    funext j
    simp [v_z]
    try rfl) z1 o1
  have k2 := kk p e s m args below meth c H1 locs ls C P1 L
  rw [List.map_cons, v_tv_ref, ← had] at k2
  exact k2
theorem v_newa_long {x : Int32} {N : Nat} (hw : Cond.arrayClass .long ∈ wsG) (hd : decode cc pc = .ok (.newarray .long, 2)) (hx : ¬ x < 0) (hN : x.toNatClampNeg = N) (hb : N * componentBytes .long ≤ 536870912) (hn : K.1 + 1 ≤ 1000000) (hcells : cells + 1 ≤ Z.cells) (hslots : slots + N ≤ Z.slots)
    (kk : v_V G l y cc nL rt Z Qc (cells + 1) (slots + N) (pc + 2) lv (.ref K.1 :: st) (v_k K 15 N, v_z I K.1 0, v_z J K.1 0, v_z R K.1 none)) : v_V G l y cc nL rt Z Qc cells slots pc lv (.int x :: st) (K, I, J, R) := by
  intro p e s m args below meth c H locs ls C P L
  refine va_newaK C.1 C.2.1 (atype := .long) (C.2.2.2.2.1 _ hw) rfl hd rfl hx hN hb hcells hslots rfl fun H1 cA e1 z1 o1 hA hf => ?_
  have hcA : cA = G.2.1 15 := Option.some.inj (hf.symm.trans (C.2.2.2.2.2.2.2.2.1.2 2 _ rfl).2)
  obtain ⟨P1, had⟩ := v_push (k := 15) (len := N) P hn (v_cell_long v_is_new) (by
    show H1[H.size]? = some (vp_cell _ _)
    rw [vp_cell_l, e1, hcA]
    congr 2
    funext j
    simp [v_z]
    try rfl) z1 o1
  have k2 := kk p e s m args below meth c H1 locs ls C P1 L
  rw [List.map_cons, v_tv_ref, ← had] at k2
  exact k2
theorem v_newa_boolean {x : Int32} {N : Nat} (hw : Cond.arrayClass .boolean ∈ wsG) (hd : decode cc pc = .ok (.newarray .boolean, 2)) (hx : ¬ x < 0) (hN : x.toNatClampNeg = N) (hb : N * componentBytes .boolean ≤ 536870912) (hn : K.1 + 1 ≤ 1000000) (hcells : cells + 1 ≤ Z.cells) (hslots : slots + N ≤ Z.slots)
    (kk : v_V G l y cc nL rt Z Qc (cells + 1) (slots + N) (pc + 2) lv (.ref K.1 :: st) (v_k K 16 N, v_z I K.1 0, v_z J K.1 0, v_z R K.1 none)) : v_V G l y cc nL rt Z Qc cells slots pc lv (.int x :: st) (K, I, J, R) := by
  intro p e s m args below meth c H locs ls C P L
  refine va_newaK C.1 C.2.1 (atype := .boolean) (C.2.2.2.2.1 _ hw) rfl hd rfl hx hN hb hcells hslots rfl fun H1 cA e1 z1 o1 hA hf => ?_
  have hcA : cA = G.2.1 16 := Option.some.inj (hf.symm.trans (C.2.2.2.2.2.2.2.2.1.2 3 _ rfl).2)
  obtain ⟨P1, had⟩ := v_push (k := 16) (len := N) P hn (v_cell_int v_is_new (by omega)) (by
    show H1[H.size]? = some (vp_cell _ _)
    rw [vp_cell_i, e1, hcA]
    congr 2
    funext j
    simp [v_z]
    try rfl) z1 o1
  have k2 := kk p e s m args below meth c H1 locs ls C P1 L
  rw [List.map_cons, v_tv_ref, ← had] at k2
  exact k2
theorem v_newq {idx k : Nat} {E : String} {x : Int32} {N : Nat} (hk : k = 17 ∧ E = "OneFriend$Person" ∨ k = 18 ∧ E = "OneFriend$Tape") (hw : Cond.classLink y.cls idx E ∈ wsG) (hw2 : Cond.arrayOver (.object E) ∈ wsN) (hd : decode cc pc = .ok (.anewarray idx, 3)) (hx : ¬ x < 0) (hN : x.toNatClampNeg = N) (hb : N * 4 ≤ 536870912) (hn : K.1 + 1 ≤ 1000000) (hcells : cells + 1 ≤ Z.cells) (hslots : slots + N ≤ Z.slots)
    (kk : v_V G l y cc nL rt Z Qc (cells + 1) (slots + N) (pc + 3) lv (.ref K.1 :: st) (v_k K k N, v_z I K.1 0, v_z J K.1 0, v_z R K.1 none)) : v_V G l y cc nL rt Z Qc cells slots pc lv (.int x :: st) (K, I, J, R) := by
  intro p e s m args below meth c H locs ls C P L
  subst hN
  refine W.anew C.1 C.2.1 C.2.2.2.1 (C.2.2.2.2.1 _ hw) (va_AO.use (A := args) (C.2.2.2.2.2.2.2.2.2.1.1 _ hw2)) rfl hd rfl hx hb hcells hslots fun cA kA comp f1 f2 f3 f4 => ?_
  generalize hH1 : H.push ({ cls := cA, slots := Array.replicate x.toNatClampNeg .null, vm := .none } : Cell) = H1
  have z1 : H1.size = H.size + 1 := by rw [← hH1, Array.size_push]
  have e1 : H1[H.size]? = some (arrV cA x.toNatClampNeg (fun _ => .null)) := by rw [← hH1, Array.getElem?_push_size, ← arrV_new]
  have o1 : ∀ q : Nat, q < H.size → H1[q]? = H[q]? := fun q hq => by rw [← hH1, Array.getElem?_push, if_neg (Nat.ne_of_lt hq)]
  have hk2 : k = 17 ∨ k = 18 := by rcases hk with ⟨h, -⟩ | ⟨h, -⟩ <;> simp [h]
  have hA : cA = G.2.1 k := by
    rcases hk with ⟨rfl, rfl⟩ | ⟨rfl, rfl⟩
    · obtain ⟨_, _, -, -, -, q4⟩ := (C.2.2.2.2.2.2.2.2.1.2 4 _ rfl).2
      exact Option.some.inj (f1.symm.trans q4)
    · obtain ⟨_, _, -, -, -, q4⟩ := (C.2.2.2.2.2.2.2.2.1.2 5 _ rfl).2
      exact Option.some.inj (f1.symm.trans q4)
  obtain ⟨P1, had⟩ := v_push (k := k) (len := x.toNatClampNeg) P hn (v_cell_ref v_is_new hk2) (by
    show H1[H.size]? = some (vp_cell _ _)
    rw [vp_cell_q, e1, hA]
    congr 2
    funext j
    simp [v_z, va_rf]) z1 o1
  have k2 := kk p e s m args below meth c H1 locs ls C P1 L
  rw [List.map_cons, v_tv_ref, ← had] at k2
  exact k2
/-- a handle (of a class under the array's) into an array of handles -/
theorem v_aastore {i : Int32} {k t0 ci nv v : Nat} {q : vw_C} {E : String} (hd : decode cc pc = .ok (.aastore, 1)) (hi : v_is K h k n) (hk : k = 17 ∨ k = 18) (ht : (v_ty G)[t0]? = some (G.2.1 k, .object E)) (hin : vp_in i n) (hv : v_is K v ci nv) (hci : ci < 13) (hq : vwCl[ci]? = some q) (hca : q.1 = E ∨ Cond.castable q.1 E ∈ wsN)
    (kk : v_V G l y cc nL rt Z Qc cells slots (pc + 1) lv st (K, I, J, v_u R h i.toNatClampNeg (some v))) : v_V G l y cc nL rt Z Qc cells slots pc lv (.ref v :: .int i :: .ref h :: st) (K, I, J, R) := by
  intro p e s m args below meth c H locs ls C P L
  have hK := C.2.2.2.2.2.2.2.2.1
  have hlt : i.toNatClampNeg < n := Nat.not_le.mp fun q => hin (Or.inr q)
  have h0 : ¬ i < 0 := fun q => hin (Or.inl q)
  obtain ⟨r', hr', cellV, g1, g2, g3, -⟩ := P.1 v _ (v_at_obj hv hci)
  have hcls := (hK.1 ci q hq).2
  obtain ⟨kA, comp, k1, k2, k3, -⟩ := (hK.2 t0 _ ht).2
  obtain ⟨kE, hkE, -⟩ := Vm.findClass_spec k3
  obtain ⟨kC, hkC, -⟩ := hcls.2
  have hasg : s.vm.assignable (G.1.1 ci) comp = true := by
    rcases hca with hca | hca
    · have e1 : G.1.1 ci = comp := by
        have := hcls.1
        rw [hca] at this
        exact Option.some.inj (this.symm.trans k3)
      rw [e1]; exact va_asg _ _
    · obtain ⟨c0, t1, f1, f2, f3⟩ := Cond.castable_spec (va_Nw.use (A := args) rfl (C.2.2.2.2.2.2.2.2.2.1.1 _ hca))
      cases hcls.1.symm.trans f1
      cases k3.symm.trans f2
      exact f3
  refine W.aast C.1 C.2.1 (P.1 h _ (v_at_ref hi hk)) (fun q h => by cases h) (fun h => by cases h) k1 k2 rfl hkE ⟨h0, by show _ < (arrV _ _ _).slots.size; rw [arrV_size]; exact hlt⟩ g1 (fun q h => by rw [g3] at h; cases h) (by rw [g2]; exact hkC) (by rw [g2]; exact hasg) rfl rfl hd fun H1 e1 z oq => ?_
  refine kk p e s m args below meth c H1 _ ls C (v_wr P hi.1 ?_ v_cell_neR z oq (fun q hq => by rw [List.mem_singleton.mp hq])) L
  rw [v_cell_ref hi hk]
  show H1[v_ad G h]? = some (vp_cell _ _)
  rw [e1, vp_cell_q, vp_cell_q, arrV_store]
  congr 2
  funext j
  by_cases hj : j = i.toNatClampNeg
  · subst hj; simp [updV, v_u, va_rf]
  · simp [updV, v_u, hj]
/-- constants -/
theorem v_ldc {idx : Nat} {v : Int32} (hw : Cond.constant y.cls idx v ∈ wsG) (hd : decode cc pc = .ok (.ldc idx, 2)) (kk : v_V G l y cc nL rt Z Qc cells slots (pc + 2) lv (.int v :: st) M) : v_V G l y cc nL rt Z Qc cells slots pc lv st M :=
  fun p e s m args below meth c H locs ls C P L => W.ldc C.1 C.2.1 C.2.2.2.1 (C.2.2.2.2.1 _ hw) rfl hd (kk p e s m args below meth c H locs ls C P L)
theorem v_ldcw {idx : Nat} {v : Int32} (hw : Cond.constant y.cls idx v ∈ wsG) (hd : decode cc pc = .ok (.ldc_w idx, 3)) (kk : v_V G l y cc nL rt Z Qc cells slots (pc + 3) lv (.int v :: st) M) : v_V G l y cc nL rt Z Qc cells slots pc lv st M :=
  fun p e s m args below meth c H locs ls C P L => lv_ldcw C.1 C.2.1 C.2.2.2.1 (C.2.2.2.2.1 _ hw) hd (kk p e s m args below meth c H locs ls C P L)
theorem v_ldc2 {idx : Nat} {v : Int64} (hw : Cond.constantLong y.cls idx v ∈ wsG) (hd : decode cc pc = .ok (.ldc2_w idx, 3)) (kk : v_V G l y cc nL rt Z Qc cells slots (pc + 3) lv (.long v :: st) M) : v_V G l y cc nL rt Z Qc cells slots pc lv st M :=
  fun p e s m args below meth c H locs ls C P L => W.ldc2 C.1 C.2.1 C.2.2.2.1 (C.2.2.2.2.1 _ hw) rfl hd (kk p e s m args below meth c H locs ls C P L)
theorem v_ad_x {i : Nat} : v_ad G (1000000 + i) = G.2.2.2 i := by
  unfold v_ad
  rw [if_neg (by omega), show 1000000 + i - 1000000 = i by omega]
theorem v_ldcS {idx i : Nat} {tx : String} (hw : (y.cls, idx, tx, i) ∈ v_trf) (hd : decode cc pc = .ok (.ldc idx, 2)) (kk : v_V G l y cc nL rt Z Qc cells slots (pc + 2) lv (.ref (1000000 + (10 + i)) :: st) M) : v_V G l y cc nL rt Z Qc cells slots pc lv st M := by
  intro p e s m args below meth c H locs ls C P L
  refine va_ldcS C.1 C.2.1 C.2.2.2.1 (C.2.2.2.2.2.2.2.2.2.1.2.2.2.2.2.2 _ hw) hd ?_
  have k2 := kk p e s m args below meth c H locs ls C P L
  rw [List.map_cons, v_tv_ref, v_ad_x] at k2
  exact k2
theorem v_aconst_null (hd : decode cc pc = .ok (.aconst_null, 1)) (kk : v_V G l y cc nL rt Z Qc cells slots (pc + 1) lv (.null :: st) M) : v_V G l y cc nL rt Z Qc cells slots pc lv st M :=
  fun p e s m args below meth c H locs ls C P L => lv_null C.1 C.2.1 hd (kk p e s m args below meth c H locs ls C P L)
theorem v_ifnull0 {off : Int} {tgt : Nat} (hd : decode cc pc = .ok (.ifnull off, 3)) (ht : (pc : Int) + off = (tgt : Int)) (kk : v_V G l y cc nL rt Z Qc cells slots tgt lv st M) : v_V G l y cc nL rt Z Qc cells slots pc lv (.null :: st) M :=
  fun p e s m args below meth c H locs ls C P L => lv_ifnullN C.1 C.2.1 hd ht (kk p e s m args below meth c H locs ls C P L)
theorem v_ifnonnull0 {off : Int} (hd : decode cc pc = .ok (.ifnonnull off, 3)) (kk : v_V G l y cc nL rt Z Qc cells slots (pc + 3) lv st M) : v_V G l y cc nL rt Z Qc cells slots pc lv (.null :: st) M :=
  fun p e s m args below meth c H locs ls C P L => lv_ifnonnullN C.1 C.2.1 hd (kk p e s m args below meth c H locs ls C P L)
theorem v_aload_nN {n : Fin 4} {i : Nat} (hd : decode cc pc = .ok (.aload_n n, 1)) (hi : (n : Nat) = i) (hl : lv[i]? = some (some .null)) (k : v_V G l y cc nL rt Z Qc cells slots (pc + 1) lv (.null :: st) M) : v_V G l y cc nL rt Z Qc cells slots pc lv st M :=
  fun p e s m args below meth c H locs ls C P L => lv_aload_nN C.1 C.2.1 hd hi (v_L_at L hl) (k p e s m args below meth c H locs ls C P L)
theorem v_aloadN {i : Nat} (hd : decode cc pc = .ok (.aload i, 2)) (hl : lv[i]? = some (some .null)) (k : v_V G l y cc nL rt Z Qc cells slots (pc + 2) lv (.null :: st) M) : v_V G l y cc nL rt Z Qc cells slots pc lv st M :=
  fun p e s m args below meth c H locs ls C P L => lv_aloadN C.1 C.2.1 hd (v_L_at L hl) (k p e s m args below meth c H locs ls C P L)
theorem v_astore_nN {n : Fin 4} {i : Nat} (hd : decode cc pc = .ok (.astore_n n, 1)) (hi : (n : Nat) = i) (hn : i < nL) (hc : v_c1 lv i = true) (k : v_V G l y cc nL rt Z Qc cells slots (pc + 1) (lv.set i (some .null)) st M) : v_V G l y cc nL rt Z Qc cells slots pc lv (.null :: st) M :=
  fun p e s m args below meth c H locs ls C P L => lv_astore_nN C.1 C.2.1 hd hi L.1 hn rfl (fun ls2 h2 => k p e s m args below meth c H locs ls2 C P (v_L_set1 (v := .null) L hc h2))
theorem v_astoreN {i : Nat} (hd : decode cc pc = .ok (.astore i, 2)) (hn : i < nL) (hc : v_c1 lv i = true) (k : v_V G l y cc nL rt Z Qc cells slots (pc + 2) (lv.set i (some .null)) st M) : v_V G l y cc nL rt Z Qc cells slots pc lv (.null :: st) M :=
  fun p e s m args below meth c H locs ls C P L => lv_astoreN C.1 C.2.1 hd L.1 hn rfl (fun ls2 h2 => k p e s m args below meth c H locs ls2 C P (v_L_set1 (v := .null) L hc h2))
end VROWS4
