/-! SYSTEM.ARRAYCOPY -/
def v_cp {α : Type} (f : Nat → Nat → α) (h0 h1 sp dp n : Nat) : Nat → Nat → α := fun a b => if a = h1 then va_cpy (f h0) (f h1) sp dp n b else f a b
theorem v_nn {z : Int32} (hz : ¬ z < 0) : z.toInt = (z.toNatClampNeg : Int) := by
  have hz0 : (0 : Int) ≤ z.toInt := by
    have := Int32.not_lt.mp hz
    simpa using Int32.le_iff_toInt_le.mp this
  show z.toInt = ((z.toInt.toNat : Nat) : Int)
  omega
section VROWS6
variable {G : v_G} {l : Launch} {y : MethodName} {cc : ByteArray} {nL : Nat} {rt : Option FieldType} {Z : Room} {Qc : Array Value → State → Outcome → State → Prop} {cells slots pc : Nat} {lv : List (Option Value)} {st : List Value} {M : v_MM}
variable {K : Nat × v_TY} {I : Nat → Nat → Int32} {J : Nat → Nat → Int64} {R : Nat → Nat → Option Nat} {h n : Nat}
/-- the copy's cells, over the machine -/
theorem v_copyW {p : Program} {e : Env} {s : State} {m : MethodId} {args : Array Value} {below : List Frame} {meth : Method} {c : Code} {H : Heap} {locs : List Loc} {ls : Array Slot} {Q : State → Prop} {rest : List Value} {α : Type} (mk : α → Value) {idx h0 h1 : Nat} {cA : ClassId} {ty : FieldType} {n0 n1 : Nat} {f g : Nat → α} {sp dp k : Int32}
    (C : v_C G l y cc nL rt p s m args meth c) (hls : ls.size = nL) (hw : v_cA y.cls idx) (hd : decode cc pc = .ok (.invokestatic idx, 3)) (c0 : H[v_ad G h0]? = some (arrV cA n0 (fun j => mk (f j)))) (c1 : H[v_ad G h1]? = some (arrV cA n1 (fun j => mk (g j)))) (hA : ArrOfT s cA ty)
    (a1 : ¬ sp < 0) (a2 : ¬ dp < 0) (a3 : ¬ k < 0) (a4 : sp.toNatClampNeg + k.toNatClampNeg ≤ n0) (a5 : dp.toNatClampNeg + k.toNatClampNeg ≤ n1) (hf : 1 ≤ Z.frames) (hz : (rest.map fun v => v.category).sum + (nativeFrameWords "java/lang/System" "arraycopy" 5 + 11) ≤ Z.locals)
    (hel : ∀ i : Nat, i < k.toNatClampNeg → (fits ty (mk (f (sp.toNatClampNeg + i))) = true ∧ ∀ q, mk (f (sp.toNatClampNeg + i)) ≠ .ref q) ∨ ∃ (q : Nat) (E : String), mk (f (sp.toNatClampNeg + i)) = .ref q ∧ ty = .object E ∧ va_Any E s H q ∧ va_RA s cA (.object E))
    (kk : ∀ (H1 : Heap) (L : List Loc), H1[v_ad G h1]? = some (arrV cA n1 (fun j => mk (va_cpy f g sp.toNatClampNeg dp.toNatClampNeg k.toNatClampNeg j))) → H1.size = H.size → (∀ q : Nat, q ≠ v_ad G h1 → H1[q]? = H[q]?) → (∀ q ∈ L, q.base = v_ad G h1) → W p l e Z s m args below meth c H1 (locs ++ L) cells slots Q (F0 m (pc + 3) ls rest)) :
    W p l e Z s m args below meth c H locs cells slots Q (F0 m pc ls (.int k :: .int dp :: .ref (v_ad G h1) :: .int sp :: .ref (v_ad G h0) :: rest)) := by
  intro T hT X
  have W0 := C.2.2.2.2.1
  obtain ⟨-, k1, hk1, cm1, hkk1⟩ := hA n1 (fun j => mk (g j))
  obtain ⟨vm', X', step⟩ := X.arraycopy C.1 C.2.2.2.1 (W0 _ hw.1) (W0 _ hw.2.1) (W0 _ hw.2.2.1) (W0 _ hw.2.2.2) (src := v_ad G h0) (dst := v_ad G h1) (cs := arrV cA n0 (fun j => mk (f j))) (cd := arrV cA n1 (fun j => mk (g j))) (srcPos := sp) (destPos := dp) (n := k) (by rw [hT]; exact c0) (by rw [hT]; exact c1)
    (fun _ h => by cases h) (fun _ h => by cases h) (fun h => by cases h) (fun h => by cases h) hk1 hk1 hkk1 hkk1 (by cases ty <;> simp [refKind]) a1 a2 a3
    (by rw [v_nn a1, v_nn a3, arrV_size]; omega)
    (by rw [v_nn a2, v_nn a3, arrV_size]; omega)
    (fun vm₁ hal i hi => by
      have e1 : (arrV cA n0 (fun j => mk (f j))).slots.getD (sp.toNatClampNeg + i) .null = mk (f (sp.toNatClampNeg + i)) := by
        rw [Array.getD_eq_getD_getElem?, arrV_read _ _ (by omega)]
        rfl
      rw [e1]
      rcases hel i hi with ⟨q1, q2⟩ | ⟨q, E, q1, q2, q3, q4⟩
      · refine ⟨q1, ?_⟩
        cases hv : mk (f (sp.toNatClampNeg + i)) with
        | ref q => exact absurd hv (q2 q)
        | _ => exact trivial
      · subst q2
        rw [q1]
        obtain ⟨cellV, g1, g2, ⟨kC, hkC⟩, hasg⟩ := q3
        obtain ⟨kA, comp, r1, r2, r3, -⟩ := q4
        cases hk1.symm.trans r1
        cases hkk1.symm.trans r2
        obtain ⟨kE, hkE, -⟩ := Vm.findClass_spec r3
        obtain ⟨kC', hkC', -⟩ := hal.2.2 _ _ hkC
        obtain ⟨kE', hkE', -⟩ := hal.2.2 _ _ hkE
        refine ⟨rfl, cellV, (show T.heap[q]? = some cellV by rw [hT]; exact g1), (fun q h => by rw [h] at g2; cases g2), ⟨kC', hkC'⟩, ⟨kE', hkE'⟩, ?_⟩
        show vm₁.assignable _ _ = true
        rw [hal.assignable]
        exact hasg _ r3)
    (g := F0 m pc ls (.int k :: .int dp :: .ref (v_ad G h1) :: .int sp :: .ref (v_ad G h0) :: rest)) rfl (by rw [C.2.2.1, ← hls]) (rest := rest) rfl (by rw [C.2.1]; exact hd) hf (by show 2 * 0 + _ + _ ≤ _; omega)
  have e1 : copied (arrV cA n0 (fun j => mk (f j))) (arrV cA n1 (fun j => mk (g j))) sp dp k = arrV cA n1 (fun j => mk (va_cpy f g sp.toNatClampNeg dp.toNatClampNeg k.toNatClampNeg j)) := va_copied mk cA cA f g a4
  rw [e1] at X' step
  have hl : v_ad G h1 < H.size := (Array.getElem?_eq_some_iff.mp c1).1
  generalize hD : arrV cA n1 (fun j => mk (va_cpy f g sp.toNatClampNeg dp.toNatClampNeg k.toNatClampNeg j)) = D at X' step kk
  have hheap : ((T.setVm vm').setCell (v_ad G h1) D).heap = H.setIfInBounds (v_ad G h1) D := by rw [← hT]; rfl
  obtain ⟨t, b1, b2⟩ := kk _ _ (show (H.setIfInBounds (v_ad G h1) D)[v_ad G h1]? = some D by simp [Array.getElem?_setIfInBounds, hl]) (by simp) (fun q hq => by simp [Array.getElem?_setIfInBounds, Ne.symm hq]) (fun q hq => by
    obtain ⟨z, -, hz⟩ := List.mem_map.mp hq
    rw [← hz]) _ hheap X'
  exact ⟨t, step t b1, b2⟩
/-- ints (kind 14) or bytes (kind 13) -/
theorem v_copyI {idx h0 h1 kd n0 n1 : Nat} {ty : FieldType} {sp dp k : Int32} (hw : v_cA y.cls idx) (hkd : kd = 13 ∧ ty = .byte ∨ kd = 14 ∧ ty = .int) (i0 : v_is K h0 kd n0) (i1 : v_is K h1 kd n1) (a1 : ¬ sp < 0) (a2 : ¬ dp < 0) (a3 : ¬ k < 0) (a4 : sp.toNatClampNeg + k.toNatClampNeg ≤ n0) (a5 : dp.toNatClampNeg + k.toNatClampNeg ≤ n1)
    (hfit : ∀ i : Nat, i < k.toNatClampNeg → fits ty (.int (I h0 (sp.toNatClampNeg + i))) = true) (hf : 1 ≤ Z.frames) (hz : (st.map fun v => v.category).sum + (nativeFrameWords "java/lang/System" "arraycopy" 5 + 11) ≤ Z.locals) (hd : decode cc pc = .ok (.invokestatic idx, 3))
    (kk : v_V G l y cc nL rt Z Qc cells slots (pc + 3) lv st (K, v_cp I h0 h1 sp.toNatClampNeg dp.toNatClampNeg k.toNatClampNeg, J, R)) : v_V G l y cc nL rt Z Qc cells slots pc lv (.int k :: .int dp :: .ref h1 :: .int sp :: .ref h0 :: st) (K, I, J, R) := by
  intro p e s m args below meth c H locs ls C P L
  have hk3 : kd = 13 ∨ kd = 14 ∨ kd = 16 := by rcases hkd with ⟨h, -⟩ | ⟨h, -⟩ <;> simp [h]
  have hA : ArrOfT s (G.2.1 kd) ty := by
    rcases hkd with ⟨rfl, rfl⟩ | ⟨rfl, rfl⟩
    · exact (C.2.2.2.2.2.2.2.2.1.2 0 _ rfl).1
    · exact (C.2.2.2.2.2.2.2.2.1.2 1 _ rfl).1
  refine v_copyW (fun x => .int x) C L.1.1 hw hd (P.1 h0 _ (v_at_int i0 hk3)) (P.1 h1 _ (v_at_int i1 hk3)) hA a1 a2 a3 a4 a5 hf (by rw [v_catsum]; exact hz) (fun i hi => Or.inl ⟨hfit i hi, fun q h => by cases h⟩) (fun H1 L1 e1 z oq hL => ?_)
  have e0 : v_cp I h0 h1 sp.toNatClampNeg dp.toNatClampNeg k.toNatClampNeg h1 = va_cpy (I h0) (I h1) sp.toNatClampNeg dp.toNatClampNeg k.toNatClampNeg := by funext b; simp [v_cp]
  have e2 : ∀ a, a ≠ h1 → v_cell G K (v_cp I h0 h1 sp.toNatClampNeg dp.toNatClampNeg k.toNatClampNeg) J R a = v_cell G K I J R a := by
    intro a ha
    have e : v_cp I h0 h1 sp.toNatClampNeg dp.toNatClampNeg k.toNatClampNeg a = I a := by funext b; simp [v_cp, ha]
    have e5 : ∀ ci, v_fs G (v_cp I h0 h1 sp.toNatClampNeg dp.toNatClampNeg k.toNatClampNeg) R a ci = v_fs G I R a ci := fun ci => by simp [v_fs, e]
    simp [v_cell, e, e5]
  refine kk p e s m args below meth c H1 _ ls C (v_wr P i1.1 ?_ e2 z oq hL) L
  rw [v_cell_int i1 hk3, e0]
  exact e1
theorem v_copyL {idx h0 h1 n0 n1 : Nat} {sp dp k : Int32} (hw : v_cA y.cls idx) (i0 : v_is K h0 15 n0) (i1 : v_is K h1 15 n1) (a1 : ¬ sp < 0) (a2 : ¬ dp < 0) (a3 : ¬ k < 0) (a4 : sp.toNatClampNeg + k.toNatClampNeg ≤ n0) (a5 : dp.toNatClampNeg + k.toNatClampNeg ≤ n1)
    (hf : 1 ≤ Z.frames) (hz : (st.map fun v => v.category).sum + (nativeFrameWords "java/lang/System" "arraycopy" 5 + 11) ≤ Z.locals) (hd : decode cc pc = .ok (.invokestatic idx, 3))
    (kk : v_V G l y cc nL rt Z Qc cells slots (pc + 3) lv st (K, I, v_cp J h0 h1 sp.toNatClampNeg dp.toNatClampNeg k.toNatClampNeg, R)) : v_V G l y cc nL rt Z Qc cells slots pc lv (.int k :: .int dp :: .ref h1 :: .int sp :: .ref h0 :: st) (K, I, J, R) := by
  intro p e s m args below meth c H locs ls C P L
  refine v_copyW (fun x => .long x) C L.1.1 hw hd (P.1 h0 _ (v_at_long i0)) (P.1 h1 _ (v_at_long i1)) (C.2.2.2.2.2.2.2.2.1.2 2 _ rfl).1 a1 a2 a3 a4 a5 hf (by rw [v_catsum]; exact hz) (fun i hi => Or.inl ⟨rfl, fun q h => by cases h⟩) (fun H1 L1 e1 z oq hL => ?_)
  have e0 : v_cp J h0 h1 sp.toNatClampNeg dp.toNatClampNeg k.toNatClampNeg h1 = va_cpy (J h0) (J h1) sp.toNatClampNeg dp.toNatClampNeg k.toNatClampNeg := by funext b; simp [v_cp]
  have e2 : ∀ a, a ≠ h1 → v_cell G K I (v_cp J h0 h1 sp.toNatClampNeg dp.toNatClampNeg k.toNatClampNeg) R a = v_cell G K I J R a := by
    intro a ha
    have e : v_cp J h0 h1 sp.toNatClampNeg dp.toNatClampNeg k.toNatClampNeg a = J a := by funext b; simp [v_cp, ha]
    simp [v_cell, e]
  refine kk p e s m args below meth c H1 _ ls C (v_wr P i1.1 ?_ e2 z oq hL) L
  rw [v_cell_long i1, e0]
  exact e1
theorem v_any {s : State} {H : Heap} {locs : List Loc} {ci : Nat} {E : String} {v nv : Nat} (hK : va_K G.1 vwCl (v_ty G) s) (hX : v_X G s) (P : v_Rp G (K, I, J, R) s H locs) (hv : v_is K v ci nv) (hc : v_cst ci E) : va_Any E s H (v_ad G v) := by
  obtain ⟨q, h1, h2, h3⟩ := hc
  refine va_rAny hK P.1 (v_at_obj hv h2) h1 (fun comp c0 f1 f2 => ?_)
  rcases h3 with h3 | h3
  · rw [h3] at f2
    cases f1.symm.trans f2
    exact va_asg _ _
  · obtain ⟨c1, t1, g1, g2, g3⟩ := Cond.castable_spec (va_Nw.use (A := #[]) rfl (hX.1 _ h3))
    cases f1.symm.trans g2
    cases f2.symm.trans g1
    exact g3
theorem v_copyR {idx h0 h1 kd n0 n1 : Nat} {E : String} {sp dp k : Int32} (hw : v_cA y.cls idx) (hkd : kd = 17 ∧ E = "OneFriend$Person" ∨ kd = 18 ∧ E = "OneFriend$Tape") (i0 : v_is K h0 kd n0) (i1 : v_is K h1 kd n1) (a1 : ¬ sp < 0) (a2 : ¬ dp < 0) (a3 : ¬ k < 0) (a4 : sp.toNatClampNeg + k.toNatClampNeg ≤ n0) (a5 : dp.toNatClampNeg + k.toNatClampNeg ≤ n1)
    (hel : ∀ i v : Nat, i < k.toNatClampNeg → R h0 (sp.toNatClampNeg + i) = some v → ∃ ci nv, v_is K v ci nv ∧ v_cst ci E) (hf : 1 ≤ Z.frames) (hz : (st.map fun v => v.category).sum + (nativeFrameWords "java/lang/System" "arraycopy" 5 + 11) ≤ Z.locals) (hd : decode cc pc = .ok (.invokestatic idx, 3))
    (kk : v_V G l y cc nL rt Z Qc cells slots (pc + 3) lv st (K, I, J, v_cp R h0 h1 sp.toNatClampNeg dp.toNatClampNeg k.toNatClampNeg)) : v_V G l y cc nL rt Z Qc cells slots pc lv (.int k :: .int dp :: .ref h1 :: .int sp :: .ref h0 :: st) (K, I, J, R) := by
  intro p e s m args below meth c H locs ls C P L
  have hk2 : kd = 17 ∨ kd = 18 := by rcases hkd with ⟨h, -⟩ | ⟨h, -⟩ <;> simp [h]
  have hA : ArrOfT s (G.2.1 kd) (.object E) ∧ va_RA s (G.2.1 kd) (.object E) := by
    rcases hkd with ⟨rfl, rfl⟩ | ⟨rfl, rfl⟩
    · exact C.2.2.2.2.2.2.2.2.1.2 4 _ rfl
    · exact C.2.2.2.2.2.2.2.2.1.2 5 _ rfl
  refine v_copyW (fun x : Option Nat => va_rf (x.map (v_ad G))) (cA := G.2.1 kd) (n0 := n0) (n1 := n1) (f := R h0) (g := R h1) C L.1.1 hw hd (P.1 h0 _ (v_at_ref i0 hk2)) (P.1 h1 _ (v_at_ref i1 hk2)) hA.1 a1 a2 a3 a4 a5 hf (by rw [v_catsum]; exact hz) (fun i hi => ?_) (fun H1 L1 e1 z oq hL => ?_)
  · cases hv : R h0 (sp.toNatClampNeg + i) with
    | none => exact Or.inl ⟨rfl, fun q h => by cases h⟩
    | some v =>
      obtain ⟨ci, nv, g1, g2⟩ := hel i v hi hv
      exact Or.inr ⟨v_ad G v, E, rfl, rfl, v_any C.2.2.2.2.2.2.2.2.1 C.2.2.2.2.2.2.2.2.2.1 P g1 g2, hA.2⟩
  have e0 : v_cp R h0 h1 sp.toNatClampNeg dp.toNatClampNeg k.toNatClampNeg h1 = va_cpy (R h0) (R h1) sp.toNatClampNeg dp.toNatClampNeg k.toNatClampNeg := by funext b; simp [v_cp]
  have e2 : ∀ a, a ≠ h1 → v_cell G K I J (v_cp R h0 h1 sp.toNatClampNeg dp.toNatClampNeg k.toNatClampNeg) a = v_cell G K I J R a := by
    intro a ha
    have e : v_cp R h0 h1 sp.toNatClampNeg dp.toNatClampNeg k.toNatClampNeg a = R a := by funext b; simp [v_cp, ha]
    have e5 : ∀ ci, v_fs G I (v_cp R h0 h1 sp.toNatClampNeg dp.toNatClampNeg k.toNatClampNeg) a ci = v_fs G I R a ci := fun ci => by simp [v_fs, e]
    simp [v_cell, e, e5]
  refine kk p e s m args below meth c H1 _ ls C (v_wr P i1.1 ?_ e2 z oq hL) L
  rw [v_cell_ref i1 hk2, e0]
  exact e1
end VROWS6
