/-! THE JUDGEMENT v_V: a method's run over the pure memory -/
theorem v_nw_warm {w : Cond} (hw : v_kn w = true) {s U : State} (hW : s.WarmedH U.vm) (h : va_Nw w s) : va_Nw w U := by
  cases w with
  | methodLinkNest a i x hh => exact va_Nw.warmM hW h
  | fieldLinkNest a i b n d hh => exact va_Nw.warmF hW h
  | castable a b => exact va_Nw.warmC hW h
  | declares x => exact va_Nw.warmD hW h
  | arrayOver t =>
    cases t with
    | object C => exact va_AO.moved hW.alike h
    | _ => cases hw
  | _ => cases hw
/-- pairs of classes of which the first isn't under the second -/
def v_nc : List (String × String) := [("OneFriend$Person", "OneFriend$Weighty"), ("OneFriend$Person", "OneFriend$Secret"), ("OneFriend$Person", "OneFriend$Moody"), ("OneFriend$Person", "OneFriend$Mayor"), ("OneFriend$Person", "OneFriend$Shy"), ("OneFriend$Person", "OneFriend$Told"),
  ("OneFriend$Weighty", "OneFriend$Secret"), ("OneFriend$Weighty", "OneFriend$Moody"), ("OneFriend$Weighty", "OneFriend$Mayor"), ("OneFriend$Weighty", "OneFriend$Shy"), ("OneFriend$Weighty", "OneFriend$Told"),
  ("OneFriend$Secret", "OneFriend$Weighty"), ("OneFriend$Secret", "OneFriend$Moody"), ("OneFriend$Secret", "OneFriend$Mayor"), ("OneFriend$Secret", "OneFriend$Shy"), ("OneFriend$Secret", "OneFriend$Told"),
  ("OneFriend$Moody", "OneFriend$Weighty"), ("OneFriend$Moody", "OneFriend$Secret"), ("OneFriend$Moody", "OneFriend$Mayor"), ("OneFriend$Moody", "OneFriend$Shy"), ("OneFriend$Moody", "OneFriend$Told"),
  ("OneFriend$Mayor", "OneFriend$Secret"), ("OneFriend$Mayor", "OneFriend$Moody"), ("OneFriend$Mayor", "OneFriend$Shy"), ("OneFriend$Mayor", "OneFriend$Told"),
  ("OneFriend$Shy", "OneFriend$Weighty"), ("OneFriend$Shy", "OneFriend$Moody"), ("OneFriend$Shy", "OneFriend$Mayor"), ("OneFriend$Shy", "OneFriend$Told"),
  ("OneFriend$Told", "OneFriend$Weighty"), ("OneFriend$Told", "OneFriend$Secret"), ("OneFriend$Told", "OneFriend$Mayor"), ("OneFriend$Told", "OneFriend$Shy")]
def v_les : Nat → Value := fun j => .int (([0, 0, 1, 0, 1, 2, 0, 1, 2, 3, 0, 1, 2, 3, 4] : List Int32).getD j 0)
def v_gre : Nat → Value := fun j => .int (([1, 2, 2, 3, 3, 3, 4, 4, 4, 4, 5, 5, 5, 5, 5] : List Int32).getD j 0)
/-- the texts: ant ake reak wmb digits letters signs; their lengths, their bytes -/
def v_tln : List Nat := [3, 3, 4, 3, 10, 6, 3]
def v_tby : List (List Int32) := [[97, 110, 116], [97, 107, 101], [114, 101, 97, 107], [119, 109, 98], [48, 49, 50, 51, 52, 53, 54, 55, 56, 57], [97, 98, 102, 100, 101, 121], [60, 61, 62]]
/-- which class's which entry is which text -/
def v_trf : List (String × Nat × String × Nat) := [("OneFriend$Town", 101, "abfdey", 5), ("OneFriend$Town", 103, "<=>", 6), ("OneFriend$Town", 65, "wmb", 3), ("OneFriend$Town", 71, "ant", 0), ("OneFriend$Town", 77, "ake", 1), ("OneFriend$Town", 79, "reak", 2), ("OneFriend$Town", 89, "0123456789", 4), ("OneFriend$Village", 41, "abfdey", 5)]
/-- what was there before the run, at the state U -/
def v_X (G : v_G) (U : State) : Prop :=
  (∀ w ∈ wsN, va_Nw w U) ∧ (∀ q ∈ v_nc, va_Nc q.1 q.2 U) ∧
  (va_Z "OneFriend" "LESSER" "[I" (.ref (G.2.2.2 0)) (v_A G) U U.heap ∧ va_T .int (G.2.2.2 0) 15 v_les (v_A G) U U.heap) ∧
  (va_Z "OneFriend" "GREATER" "[I" (.ref (G.2.2.2 1)) (v_A G) U U.heap ∧ va_T .int (G.2.2.2 1) 15 v_gre (v_A G) U U.heap) ∧
  (va_Z "java/lang/String" "COMPACT_STRINGS" "Z" (.int 1) (v_A G) U U.heap ∧ (va_Z "jdk/internal/util/Preconditions" "SIOOBE_FORMATTER" "Ljava/util/function/BiFunction;" .null (v_A G) U U.heap ∨ va_Z "jdk/internal/util/Preconditions" "SIOOBE_FORMATTER" "Ljava/util/function/BiFunction;" (.ref (G.2.2.2 2)) (v_A G) U U.heap)) ∧
  vk_S 7 v_tln v_tby (fun i => G.2.2.2 (10 + i)) (fun i => G.2.2.2 (20 + i)) (v_A G) U U.heap ∧
  (∀ q ∈ v_trf, vk_R q.1 q.2.1 q.2.2.1 (G.2.2.2 (10 + q.2.2.2)) U)
theorem v_X_go {G : v_G} {s U : State} {H : Heap} {locs : List Loc} (h : v_X G s) (hW : s.WarmedH U.vm) (hU : U.heap = H) (hS : va_S (v_A G) s.heap H locs) : v_X G U := by
  obtain ⟨h1, h2, ⟨h3, h4⟩, ⟨h5, h6⟩, ⟨h7, h7b⟩, h8, h9⟩ := h
  have hq : ∀ a : Nat, a < s.heap.size → ¬ v_A G a → H[a]? = s.heap[a]? := hS.2.1
  subst hU
  exact ⟨fun w hw => v_nw_warm (List.mem_filter.mp hw).2 hW (h1 w hw), fun q hq => (h2 q hq).moved hW.alike, ⟨(h3.moved hW.alike).kept hq, (h4.moved hW.alike).kept hq⟩, ⟨(h5.moved hW.alike).kept hq, (h6.moved hW.alike).kept hq⟩, ⟨(h7.moved hW.alike).kept hq, h7b.elim (fun z => Or.inl ((z.moved hW.alike).kept hq)) (fun z => Or.inr ((z.moved hW.alike).kept hq))⟩, (h8.moved hW.alike).kept hq, fun q hq => vk_R.warm hW (h9 q hq)⟩
/-- a method's frame: the machine's tables, the code, the words, what was there before -/
def v_C (G : v_G) (l : Launch) (y : MethodName) (cc : ByteArray) (nL : Nat) (rt : Option FieldType) (p : Program) (s : State) (m : MethodId) (args : Array Value) (meth : Method) (c : Code) : Prop :=
  p.tables.exec = Jvm.exec ∧ c.code = cc ∧ c.maxLocals = nL ∧ s.vm.findClass y.cls = some m.cls ∧ (∀ w ∈ wsG, w.before args s = true) ∧ meth.sig.returnType = rt ∧ meth.locks = false ∧ meth.name = y.name ∧ va_K G.1 vwCl (v_ty G) s ∧ v_X G s ∧ G.2.2.1 ≤ s.heap.size
def v_Wx (G : v_G) (M : v_MM) (U : State) : Prop := va_P G.1 vwCl (v_ws G M) U.heap ∧ U.heap.size = G.2.2.1 + M.1.1 ∧ M.1.1 ≤ 1000000
def v_We (G : v_G) (M : v_MM) (U : State) : Prop := v_Wx G M U ∧ va_K G.1 vwCl (v_ty G) U ∧ v_X G U
def v_Rp (G : v_G) (M : v_MM) (s : State) (H : Heap) (locs : List Loc) : Prop := va_P G.1 vwCl (v_ws G M) H ∧ H.size = G.2.2.1 + M.1.1 ∧ M.1.1 ≤ 1000000 ∧ va_S (v_A G) s.heap H locs
/-- the locals, by their places -/
def v_as (G : v_G) (lv : List (Option Value)) : List (Nat × Value) := (List.range lv.length).filterMap (fun j => (lv[j]?).join.map (fun v => (j, v_tv G v)))
theorem v_as_mem {G : v_G} {lv : List (Option Value)} {q : Nat × Value} : q ∈ v_as G lv ↔ ∃ v, lv[q.1]? = some (some v) ∧ q.2 = v_tv G v := by
  unfold v_as
  rw [List.mem_filterMap]
  constructor
  · rintro ⟨j, hj, h⟩
    cases h1 : lv[j]? with
    | none => simp [h1] at h
    | some o =>
      cases o with
      | none => simp [h1] at h
      | some v =>
        simp [h1] at h
        subst h
        exact ⟨v, h1, rfl⟩
  · rintro ⟨v, h1, h2⟩
    refine ⟨q.1, List.mem_range.mpr (List.getElem?_eq_some_iff.mp h1).1, ?_⟩
    simp [h1, ← h2]
def v_L (G : v_G) (nL : Nat) (ls : Array Slot) (lv : List (Option Value)) : Prop := lv_has ls nL (v_as G lv) ∧ lv.length ≤ nL
theorem v_L_at {G : v_G} {nL : Nat} {ls : Array Slot} {lv : List (Option Value)} (L : v_L G nL ls lv) {i : Nat} {v : Value} (h : lv[i]? = some (some v)) : ls[i]? = some (.val (v_tv G v)) := L.1.2.2 (i, v_tv G v) (v_as_mem.mpr ⟨v, h, rfl⟩)
theorem v_L_ix {G : v_G} {nL : Nat} {ls : Array Slot} {lv : List (Option Value)} (L : v_L G nL ls lv) {i : Nat} {v : Value} (h : lv[i]? = some (some v)) : ∃ j : Nat, (v_as G lv)[j]? = some (i, v_tv G v) := List.getElem?_of_mem (v_as_mem.mpr ⟨v, h, rfl⟩)
/-- no long begins just ahead of place i -/
def v_c1 (lv : List (Option Value)) (i : Nat) : Bool := match i with
  | 0 => true
  | j + 1 => match lv[j]? with
    | some (some (.long _)) => false
    | some (some (.double _)) => false
    | _ => true
theorem v_c1_cat {lv : List (Option Value)} {i j : Nat} {v : Value} (hc : v_c1 lv i = true) (hj : j + 1 = i) (hv : lv[j]? = some (some v)) : v.category = 1 := by
  subst hj
  cases v <;> simp_all [v_c1, Value.category]
theorem v_L_set1 {G : v_G} {nL : Nat} {ls ls' : Array Slot} {lv : List (Option Value)} (L : v_L G nL ls lv) {i : Nat} {v : Value} (hc : v_c1 lv i = true)
    (h : lv_has ls' nL ((i, v_tv G v) :: (v_as G lv).filter (fun q => !(q.1 == i) && !(q.1 + 1 == i && q.2.category == 2)))) : v_L G nL ls' (lv.set i (some v)) := by
  refine ⟨⟨h.1, h.2.1, fun q hq => h.2.2 q ?_⟩, by rw [List.length_set]; exact L.2⟩
  obtain ⟨w, h1, h2⟩ := v_as_mem.mp hq
  by_cases hqi : q.1 = i
  · rw [hqi, List.getElem?_set_self' ] at h1
    cases h3 : lv[i]? with
    | none => simp [h3] at h1
    | some o =>
      simp [h3] at h1
      subst h1
      rw [← hqi, ← h2]
      exact List.mem_cons_self
  · rw [List.getElem?_set_ne (Ne.symm hqi)] at h1
    refine List.mem_cons_of_mem _ (List.mem_filter.mpr ⟨v_as_mem.mpr ⟨w, h1, h2⟩, ?_⟩)
    by_cases hq1 : q.1 + 1 = i
    · have := v_c1_cat hc hq1 h1
      simp [hqi, h2, v_tv_cat, this]
    · simp [hqi, hq1]
theorem v_L_set2 {G : v_G} {nL : Nat} {ls ls' : Array Slot} {lv : List (Option Value)} (L : v_L G nL ls lv) {i : Nat} {x : Int64} (hc : v_c1 lv i = true)
    (h : lv_has ls' nL ((i, .long x) :: (v_as G lv).filter (fun q => !(q.1 == i) && (!(q.1 == i + 1) && !(q.1 + 1 == i && q.2.category == 2))))) : v_L G nL ls' ((lv.set i (some (.long x))).set (i + 1) none) := by
  refine ⟨⟨h.1, h.2.1, fun q hq => h.2.2 q ?_⟩, by rw [List.length_set, List.length_set]; exact L.2⟩
  obtain ⟨w, h1, h2⟩ := v_as_mem.mp hq
  by_cases hq2 : q.1 = i + 1
  · rw [hq2, List.getElem?_set_self'] at h1
    cases h3 : (lv.set i (some (.long x)))[i + 1]? with
    | none => simp [h3] at h1
    | some o => simp [h3] at h1
  · rw [List.getElem?_set_ne (Ne.symm hq2)] at h1
    by_cases hqi : q.1 = i
    · rw [hqi, List.getElem?_set_self'] at h1
      cases h3 : lv[i]? with
      | none => simp [h3] at h1
      | some o =>
        simp [h3] at h1
        subst h1
        have e : q = (i, .long x) := by
          cases q
          simp_all [v_tv]
        rw [e]
        exact List.mem_cons_self
    · rw [List.getElem?_set_ne (Ne.symm hqi)] at h1
      refine List.mem_cons_of_mem _ (List.mem_filter.mpr ⟨v_as_mem.mpr ⟨w, h1, h2⟩, ?_⟩)
      by_cases hq1 : q.1 + 1 = i
      · have := v_c1_cat hc hq1 h1
        simp [hqi, hq2, h2, v_tv_cat, this]
      · simp [hqi, hq1, hq2]
/-- from this frame, with these locals, this stack and this memory, the method comes to its end, with Qc -/
def v_V (G : v_G) (l : Launch) (y : MethodName) (cc : ByteArray) (nL : Nat) (rt : Option FieldType) (Z : Room) (Qc : Array Value → State → Outcome → State → Prop) (cells slots pc : Nat) (lv : List (Option Value)) (st : List Value) (M : v_MM) : Prop :=
  ∀ (p : Program) (e : Env) (s : State) (m : MethodId) (args : Array Value) (below : List Frame) (meth : Method) (c : Code) (H : Heap) (locs : List Loc) (ls : Array Slot),
    v_C G l y cc nL rt p s m args meth c → v_Rp G M s H locs → v_L G nL ls lv →
    W p l e Z s m args below meth c H locs cells slots (MQ below Qc args s Z.cells Z.slots (v_A G)) (F0 m pc ls (st.map (v_tv G)))
section VROWS
variable {G : v_G} {l : Launch} {y : MethodName} {cc : ByteArray} {nL : Nat} {rt : Option FieldType} {Z : Room} {Qc : Array Value → State → Outcome → State → Prop} {cells slots pc : Nat} {lv : List (Option Value)} {st : List Value} {M : v_MM}
theorem v_iconst {n : Int} {v : Int32} (hd : decode cc pc = .ok (.iconst n, 1)) (hv : Int32.ofInt n = v) (k : v_V G l y cc nL rt Z Qc cells slots (pc + 1) lv (.int v :: st) M) : v_V G l y cc nL rt Z Qc cells slots pc lv (st) M :=
  fun p e s m args below meth c H locs ls C P L => lv_iconst C.1 C.2.1 hd hv (k p e s m args below meth c H locs ls C P L)
theorem v_bipush {n : Int} {v : Int32} (hd : decode cc pc = .ok (.bipush n, 2)) (hv : (Int8.ofInt n).toInt32 = v) (k : v_V G l y cc nL rt Z Qc cells slots (pc + 2) lv (.int v :: st) M) : v_V G l y cc nL rt Z Qc cells slots pc lv (st) M :=
  fun p e s m args below meth c H locs ls C P L => lv_bipush C.1 C.2.1 hd hv (k p e s m args below meth c H locs ls C P L)
theorem v_sipush {n : Int} {v : Int32} (hd : decode cc pc = .ok (.sipush n, 3)) (hv : (Int16.ofInt n).toInt32 = v) (k : v_V G l y cc nL rt Z Qc cells slots (pc + 3) lv (.int v :: st) M) : v_V G l y cc nL rt Z Qc cells slots pc lv (st) M :=
  fun p e s m args below meth c H locs ls C P L => lv_sipush C.1 C.2.1 hd hv (k p e s m args below meth c H locs ls C P L)
theorem v_lconst {n : Fin 2} {v : Int64} (hd : decode cc pc = .ok (.lconst n, 1)) (hv : Int64.ofNat (n : Nat) = v) (k : v_V G l y cc nL rt Z Qc cells slots (pc + 1) lv (.long v :: st) M) : v_V G l y cc nL rt Z Qc cells slots pc lv (st) M :=
  fun p e s m args below meth c H locs ls C P L => lv_lconst C.1 C.2.1 hd hv (k p e s m args below meth c H locs ls C P L)
theorem v_iadd {x z : Int32} (hd : decode cc pc = .ok (.iadd, 1))  (k : v_V G l y cc nL rt Z Qc cells slots (pc + 1) lv (.int (x + z) :: st) M) : v_V G l y cc nL rt Z Qc cells slots pc lv (.int z :: .int x :: st) M :=
  fun p e s m args below meth c H locs ls C P L => lv_iadd C.1 C.2.1 hd (k p e s m args below meth c H locs ls C P L)
theorem v_isub {x z : Int32} (hd : decode cc pc = .ok (.isub, 1))  (k : v_V G l y cc nL rt Z Qc cells slots (pc + 1) lv (.int (x - z) :: st) M) : v_V G l y cc nL rt Z Qc cells slots pc lv (.int z :: .int x :: st) M :=
  fun p e s m args below meth c H locs ls C P L => lv_isub C.1 C.2.1 hd (k p e s m args below meth c H locs ls C P L)
theorem v_imul {x z : Int32} (hd : decode cc pc = .ok (.imul, 1))  (k : v_V G l y cc nL rt Z Qc cells slots (pc + 1) lv (.int (x * z) :: st) M) : v_V G l y cc nL rt Z Qc cells slots pc lv (.int z :: .int x :: st) M :=
  fun p e s m args below meth c H locs ls C P L => lv_imul C.1 C.2.1 hd (k p e s m args below meth c H locs ls C P L)
theorem v_iand {x z : Int32} (hd : decode cc pc = .ok (.iand, 1))  (k : v_V G l y cc nL rt Z Qc cells slots (pc + 1) lv (.int (x &&& z) :: st) M) : v_V G l y cc nL rt Z Qc cells slots pc lv (.int z :: .int x :: st) M :=
  fun p e s m args below meth c H locs ls C P L => lv_iand C.1 C.2.1 hd (k p e s m args below meth c H locs ls C P L)
theorem v_ior {x z : Int32} (hd : decode cc pc = .ok (.ior, 1))  (k : v_V G l y cc nL rt Z Qc cells slots (pc + 1) lv (.int (x ||| z) :: st) M) : v_V G l y cc nL rt Z Qc cells slots pc lv (.int z :: .int x :: st) M :=
  fun p e s m args below meth c H locs ls C P L => lv_ior C.1 C.2.1 hd (k p e s m args below meth c H locs ls C P L)
theorem v_ixor {x z : Int32} (hd : decode cc pc = .ok (.ixor, 1))  (k : v_V G l y cc nL rt Z Qc cells slots (pc + 1) lv (.int (x ^^^ z) :: st) M) : v_V G l y cc nL rt Z Qc cells slots pc lv (.int z :: .int x :: st) M :=
  fun p e s m args below meth c H locs ls C P L => lv_ixor C.1 C.2.1 hd (k p e s m args below meth c H locs ls C P L)
theorem v_ishl {x z : Int32} (hd : decode cc pc = .ok (.ishl, 1))  (k : v_V G l y cc nL rt Z Qc cells slots (pc + 1) lv (.int (x <<< (z &&& 31)) :: st) M) : v_V G l y cc nL rt Z Qc cells slots pc lv (.int z :: .int x :: st) M :=
  fun p e s m args below meth c H locs ls C P L => lv_ishl C.1 C.2.1 hd (k p e s m args below meth c H locs ls C P L)
theorem v_ishr {x z : Int32} (hd : decode cc pc = .ok (.ishr, 1))  (k : v_V G l y cc nL rt Z Qc cells slots (pc + 1) lv (.int (x >>> (z &&& 31)) :: st) M) : v_V G l y cc nL rt Z Qc cells slots pc lv (.int z :: .int x :: st) M :=
  fun p e s m args below meth c H locs ls C P L => lv_ishr C.1 C.2.1 hd (k p e s m args below meth c H locs ls C P L)
theorem v_iushr {x z v : Int32} (hd : decode cc pc = .ok (.iushr, 1)) (hv : (x.toUInt32 >>> (z.toUInt32 &&& Int32.toUInt32 31)).toInt32 = v) (k : v_V G l y cc nL rt Z Qc cells slots (pc + 1) lv (.int v :: st) M) : v_V G l y cc nL rt Z Qc cells slots pc lv (.int z :: .int x :: st) M :=
  fun p e s m args below meth c H locs ls C P L => lv_iushr C.1 C.2.1 hd hv (k p e s m args below meth c H locs ls C P L)
theorem v_idiv {x z : Int32} (hd : decode cc pc = .ok (.idiv, 1)) (hne : ¬ z = 0) (k : v_V G l y cc nL rt Z Qc cells slots (pc + 1) lv (.int (x / z) :: st) M) : v_V G l y cc nL rt Z Qc cells slots pc lv (.int z :: .int x :: st) M :=
  fun p e s m args below meth c H locs ls C P L => lv_idiv C.1 C.2.1 hd hne (k p e s m args below meth c H locs ls C P L)
theorem v_irem {x z : Int32} (hd : decode cc pc = .ok (.irem, 1)) (hne : ¬ z = 0) (k : v_V G l y cc nL rt Z Qc cells slots (pc + 1) lv (.int (x - x / z * z) :: st) M) : v_V G l y cc nL rt Z Qc cells slots pc lv (.int z :: .int x :: st) M :=
  fun p e s m args below meth c H locs ls C P L => lv_irem C.1 C.2.1 hd hne (k p e s m args below meth c H locs ls C P L)
theorem v_ineg {x : Int32} (hd : decode cc pc = .ok (.ineg, 1))  (k : v_V G l y cc nL rt Z Qc cells slots (pc + 1) lv (.int (-x) :: st) M) : v_V G l y cc nL rt Z Qc cells slots pc lv (.int x :: st) M :=
  fun p e s m args below meth c H locs ls C P L => lv_ineg C.1 C.2.1 hd (k p e s m args below meth c H locs ls C P L)
theorem v_land {x z : Int64} (hd : decode cc pc = .ok (.land, 1))  (k : v_V G l y cc nL rt Z Qc cells slots (pc + 1) lv (.long (x &&& z) :: st) M) : v_V G l y cc nL rt Z Qc cells slots pc lv (.long z :: .long x :: st) M :=
  fun p e s m args below meth c H locs ls C P L => lv_land C.1 C.2.1 hd (k p e s m args below meth c H locs ls C P L)
theorem v_lor {x z : Int64} (hd : decode cc pc = .ok (.lor, 1))  (k : v_V G l y cc nL rt Z Qc cells slots (pc + 1) lv (.long (x ||| z) :: st) M) : v_V G l y cc nL rt Z Qc cells slots pc lv (.long z :: .long x :: st) M :=
  fun p e s m args below meth c H locs ls C P L => lv_lor C.1 C.2.1 hd (k p e s m args below meth c H locs ls C P L)
theorem v_lxor {x z : Int64} (hd : decode cc pc = .ok (.lxor, 1))  (k : v_V G l y cc nL rt Z Qc cells slots (pc + 1) lv (.long (x ^^^ z) :: st) M) : v_V G l y cc nL rt Z Qc cells slots pc lv (.long z :: .long x :: st) M :=
  fun p e s m args below meth c H locs ls C P L => lv_lxor C.1 C.2.1 hd (k p e s m args below meth c H locs ls C P L)
theorem v_lshl {x v : Int64} {z : Int32} (hd : decode cc pc = .ok (.lshl, 1)) (hv : x <<< (z.toInt64 &&& 63) = v) (k : v_V G l y cc nL rt Z Qc cells slots (pc + 1) lv (.long v :: st) M) : v_V G l y cc nL rt Z Qc cells slots pc lv (.int z :: .long x :: st) M :=
  fun p e s m args below meth c H locs ls C P L => lv_lshl C.1 C.2.1 hd hv (k p e s m args below meth c H locs ls C P L)
theorem v_lshr {x v : Int64} {z : Int32} (hd : decode cc pc = .ok (.lshr, 1)) (hv : x >>> (z.toInt64 &&& 63) = v) (k : v_V G l y cc nL rt Z Qc cells slots (pc + 1) lv (.long v :: st) M) : v_V G l y cc nL rt Z Qc cells slots pc lv (.int z :: .long x :: st) M :=
  fun p e s m args below meth c H locs ls C P L => lv_lshr C.1 C.2.1 hd hv (k p e s m args below meth c H locs ls C P L)
theorem v_lcmp {x z : Int64} (hd : decode cc pc = .ok (.lcmp, 1))  (k : v_V G l y cc nL rt Z Qc cells slots (pc + 1) lv (.int (lg_cmp x z) :: st) M) : v_V G l y cc nL rt Z Qc cells slots pc lv (.long z :: .long x :: st) M :=
  fun p e s m args below meth c H locs ls C P L => W.lcmp C.1 C.2.1 hd (k p e s m args below meth c H locs ls C P L)
theorem v_i2l {x : Int32} (hd : decode cc pc = .ok (.i2l, 1))  (k : v_V G l y cc nL rt Z Qc cells slots (pc + 1) lv (.long x.toInt64 :: st) M) : v_V G l y cc nL rt Z Qc cells slots pc lv (.int x :: st) M :=
  fun p e s m args below meth c H locs ls C P L => lv_i2l C.1 C.2.1 hd rfl (k p e s m args below meth c H locs ls C P L)
theorem v_l2i {x : Int64} (hd : decode cc pc = .ok (.l2i, 1))  (k : v_V G l y cc nL rt Z Qc cells slots (pc + 1) lv (.int x.toInt32 :: st) M) : v_V G l y cc nL rt Z Qc cells slots pc lv (.long x :: st) M :=
  fun p e s m args below meth c H locs ls C P L => lv_l2i C.1 C.2.1 hd rfl (k p e s m args below meth c H locs ls C P L)
theorem v_i2b {x : Int32} (hd : decode cc pc = .ok (.i2b, 1))  (k : v_V G l y cc nL rt Z Qc cells slots (pc + 1) lv (.int x.toInt8.toInt32 :: st) M) : v_V G l y cc nL rt Z Qc cells slots pc lv (.int x :: st) M :=
  fun p e s m args below meth c H locs ls C P L => lv_i2b C.1 C.2.1 hd rfl (k p e s m args below meth c H locs ls C P L)
theorem v_i2s {x : Int32} (hd : decode cc pc = .ok (.i2s, 1))  (k : v_V G l y cc nL rt Z Qc cells slots (pc + 1) lv (.int x.toInt16.toInt32 :: st) M) : v_V G l y cc nL rt Z Qc cells slots pc lv (.int x :: st) M :=
  fun p e s m args below meth c H locs ls C P L => lv_i2s C.1 C.2.1 hd rfl (k p e s m args below meth c H locs ls C P L)
theorem v_i2c {x : Int32} (hd : decode cc pc = .ok (.i2c, 1))  (k : v_V G l y cc nL rt Z Qc cells slots (pc + 1) lv (.int (x.toUInt32 % 65536).toInt32 :: st) M) : v_V G l y cc nL rt Z Qc cells slots pc lv (.int x :: st) M :=
  fun p e s m args below meth c H locs ls C P L => lv_i2c C.1 C.2.1 hd rfl (k p e s m args below meth c H locs ls C P L)
theorem v_dup {a : Value} (hd : decode cc pc = .ok (.dup, 1)) (ha : a.category = 1) (k : v_V G l y cc nL rt Z Qc cells slots (pc + 1) lv (a :: a :: st) M) : v_V G l y cc nL rt Z Qc cells slots pc lv (a :: st) M :=
  fun p e s m args below meth c H locs ls C P L => lv_dup C.1 C.2.1 hd ((v_tv_cat G a).trans ha) (k p e s m args below meth c H locs ls C P L)
theorem v_pop {a : Value} (hd : decode cc pc = .ok (.pop, 1)) (ha : a.category = 1) (k : v_V G l y cc nL rt Z Qc cells slots (pc + 1) lv (st) M) : v_V G l y cc nL rt Z Qc cells slots pc lv (a :: st) M :=
  fun p e s m args below meth c H locs ls C P L => lv_pop C.1 C.2.1 hd ((v_tv_cat G a).trans ha) (k p e s m args below meth c H locs ls C P L)
theorem v_dup2 {a b : Value} (hd : decode cc pc = .ok (.dup2, 1)) (ha : a.category = 1) (hb : b.category = 1) (k : v_V G l y cc nL rt Z Qc cells slots (pc + 1) lv (a :: b :: a :: b :: st) M) : v_V G l y cc nL rt Z Qc cells slots pc lv (a :: b :: st) M :=
  fun p e s m args below meth c H locs ls C P L => lv_dup2_11 C.1 C.2.1 hd ((v_tv_cat G a).trans ha) ((v_tv_cat G b).trans hb) (k p e s m args below meth c H locs ls C P L)
theorem v_iload_n {n : Fin 4} {i : Nat} {x : Int32} (hd : decode cc pc = .ok (.iload_n n, 1)) (hi : (n : Nat) = i) (hl : lv[i]? = some (some (.int x))) (k : v_V G l y cc nL rt Z Qc cells slots (pc + 1) lv (.int x :: st) M) : v_V G l y cc nL rt Z Qc cells slots pc lv st M :=
  fun p e s m args below meth c H locs ls C P L => lv_iload_n C.1 C.2.1 hd hi (v_L_at L hl) (k p e s m args below meth c H locs ls C P L)
theorem v_iload {i : Nat} {x : Int32} (hd : decode cc pc = .ok (.iload i, 2)) (hl : lv[i]? = some (some (.int x))) (k : v_V G l y cc nL rt Z Qc cells slots (pc + 2) lv (.int x :: st) M) : v_V G l y cc nL rt Z Qc cells slots pc lv st M :=
  fun p e s m args below meth c H locs ls C P L => lv_iload C.1 C.2.1 hd (v_L_at L hl) (k p e s m args below meth c H locs ls C P L)
theorem v_lload_n {n : Fin 4} {i : Nat} {x : Int64} (hd : decode cc pc = .ok (.lload_n n, 1)) (hi : (n : Nat) = i) (hl : lv[i]? = some (some (.long x))) (k : v_V G l y cc nL rt Z Qc cells slots (pc + 1) lv (.long x :: st) M) : v_V G l y cc nL rt Z Qc cells slots pc lv st M :=
  fun p e s m args below meth c H locs ls C P L => lv_lload_n C.1 C.2.1 hd hi (v_L_at L hl) (k p e s m args below meth c H locs ls C P L)
theorem v_lload {i : Nat} {x : Int64} (hd : decode cc pc = .ok (.lload i, 2)) (hl : lv[i]? = some (some (.long x))) (k : v_V G l y cc nL rt Z Qc cells slots (pc + 2) lv (.long x :: st) M) : v_V G l y cc nL rt Z Qc cells slots pc lv st M :=
  fun p e s m args below meth c H locs ls C P L => lv_lload C.1 C.2.1 hd (v_L_at L hl) (k p e s m args below meth c H locs ls C P L)
theorem v_aload_n {n : Fin 4} {i : Nat} {x : Nat} (hd : decode cc pc = .ok (.aload_n n, 1)) (hi : (n : Nat) = i) (hl : lv[i]? = some (some (.ref x))) (k : v_V G l y cc nL rt Z Qc cells slots (pc + 1) lv (.ref x :: st) M) : v_V G l y cc nL rt Z Qc cells slots pc lv st M :=
  fun p e s m args below meth c H locs ls C P L => lv_aload_n C.1 C.2.1 hd hi (v_L_at L hl) (k p e s m args below meth c H locs ls C P L)
theorem v_aload {i : Nat} {x : Nat} (hd : decode cc pc = .ok (.aload i, 2)) (hl : lv[i]? = some (some (.ref x))) (k : v_V G l y cc nL rt Z Qc cells slots (pc + 2) lv (.ref x :: st) M) : v_V G l y cc nL rt Z Qc cells slots pc lv st M :=
  fun p e s m args below meth c H locs ls C P L => lv_aload C.1 C.2.1 hd (v_L_at L hl) (k p e s m args below meth c H locs ls C P L)
theorem v_istore_n {n : Fin 4} {i : Nat} {x : Int32} (hd : decode cc pc = .ok (.istore_n n, 1)) (hi : (n : Nat) = i) (hn : i < nL) (hc : v_c1 lv i = true) (k : v_V G l y cc nL rt Z Qc cells slots (pc + 1) (lv.set i (some (.int x))) st M) : v_V G l y cc nL rt Z Qc cells slots pc lv (.int x :: st) M :=
  fun p e s m args below meth c H locs ls C P L => lv_istore_n C.1 C.2.1 hd hi L.1 hn rfl (fun ls2 h2 => k p e s m args below meth c H locs ls2 C P (v_L_set1 (v := .int x) L hc h2))
theorem v_istore {i : Nat} {x : Int32} (hd : decode cc pc = .ok (.istore i, 2)) (hn : i < nL) (hc : v_c1 lv i = true) (k : v_V G l y cc nL rt Z Qc cells slots (pc + 2) (lv.set i (some (.int x))) st M) : v_V G l y cc nL rt Z Qc cells slots pc lv (.int x :: st) M :=
  fun p e s m args below meth c H locs ls C P L => lv_istore C.1 C.2.1 hd L.1 hn rfl (fun ls2 h2 => k p e s m args below meth c H locs ls2 C P (v_L_set1 (v := .int x) L hc h2))
theorem v_astore_n {n : Fin 4} {i : Nat} {x : Nat} (hd : decode cc pc = .ok (.astore_n n, 1)) (hi : (n : Nat) = i) (hn : i < nL) (hc : v_c1 lv i = true) (k : v_V G l y cc nL rt Z Qc cells slots (pc + 1) (lv.set i (some (.ref x))) st M) : v_V G l y cc nL rt Z Qc cells slots pc lv (.ref x :: st) M :=
  fun p e s m args below meth c H locs ls C P L => lv_astore_n C.1 C.2.1 hd hi L.1 hn rfl (fun ls2 h2 => k p e s m args below meth c H locs ls2 C P (v_L_set1 (v := .ref x) L hc h2))
theorem v_astore {i : Nat} {x : Nat} (hd : decode cc pc = .ok (.astore i, 2)) (hn : i < nL) (hc : v_c1 lv i = true) (k : v_V G l y cc nL rt Z Qc cells slots (pc + 2) (lv.set i (some (.ref x))) st M) : v_V G l y cc nL rt Z Qc cells slots pc lv (.ref x :: st) M :=
  fun p e s m args below meth c H locs ls C P L => lv_astore C.1 C.2.1 hd L.1 hn rfl (fun ls2 h2 => k p e s m args below meth c H locs ls2 C P (v_L_set1 (v := .ref x) L hc h2))
theorem v_lstore_n {n : Fin 4} {i : Nat} {x : Int64} (hd : decode cc pc = .ok (.lstore_n n, 1)) (hi : (n : Nat) = i) (hn : i + 1 < nL) (hc : v_c1 lv i = true) (k : v_V G l y cc nL rt Z Qc cells slots (pc + 1) ((lv.set i (some (.long x))).set (i + 1) none) st M) : v_V G l y cc nL rt Z Qc cells slots pc lv (.long x :: st) M :=
  fun p e s m args below meth c H locs ls C P L => lv_lstore_n C.1 C.2.1 hd hi L.1 hn rfl (fun ls2 h2 => k p e s m args below meth c H locs ls2 C P (v_L_set2 L hc h2))
theorem v_lstore {i : Nat} {x : Int64} (hd : decode cc pc = .ok (.lstore i, 2)) (hn : i + 1 < nL) (hc : v_c1 lv i = true) (k : v_V G l y cc nL rt Z Qc cells slots (pc + 2) ((lv.set i (some (.long x))).set (i + 1) none) st M) : v_V G l y cc nL rt Z Qc cells slots pc lv (.long x :: st) M :=
  fun p e s m args below meth c H locs ls C P L => lv_lstore C.1 C.2.1 hd L.1 hn rfl (fun ls2 h2 => k p e s m args below meth c H locs ls2 C P (v_L_set2 L hc h2))
theorem v_iinc {i : Nat} {n : Int} {x v : Int32} (hd : decode cc pc = .ok (.iinc i n, 3)) (hl : lv[i]? = some (some (.int x))) (hv : Int32.ofInt n = v) (hn : i < nL) (hc : v_c1 lv i = true) (k : v_V G l y cc nL rt Z Qc cells slots (pc + 3) (lv.set i (some (.int (x + v)))) st M) : v_V G l y cc nL rt Z Qc cells slots pc lv st M := by
  intro p e s m args below meth c H locs ls C P L
  obtain ⟨j, hj⟩ := v_L_ix L hl
  exact lv_iinc C.1 C.2.1 hd L.1 hj (by rw [hv]) hn rfl (fun ls2 h2 => k p e s m args below meth c H locs ls2 C P (v_L_set1 (v := .int (x + v)) L hc h2))
theorem v_if_eq {x : Int32} {off : Int} {tgt : Nat} (hd : decode cc pc = .ok (.ifCond .eq off, 3)) (ht : (pc : Int) + off = (tgt : Int)) (kt : x = 0 → v_V G l y cc nL rt Z Qc cells slots tgt lv st M) (kf : ¬ (x = 0) → v_V G l y cc nL rt Z Qc cells slots (pc + 3) lv st M) : v_V G l y cc nL rt Z Qc cells slots pc lv (.int x :: st) M :=
  fun p e s m args below meth c H locs ls C P L => lv_if_eq C.1 C.2.1 hd ht (fun h => kt h p e s m args below meth c H locs ls C P L) (fun h => kf h p e s m args below meth c H locs ls C P L)
theorem v_icmp_eq {x z : Int32} {off : Int} {tgt : Nat} (hd : decode cc pc = .ok (.if_icmp .eq off, 3)) (ht : (pc : Int) + off = (tgt : Int)) (kt : x = z → v_V G l y cc nL rt Z Qc cells slots tgt lv st M) (kf : ¬ (x = z) → v_V G l y cc nL rt Z Qc cells slots (pc + 3) lv st M) : v_V G l y cc nL rt Z Qc cells slots pc lv (.int z :: .int x :: st) M :=
  fun p e s m args below meth c H locs ls C P L => lv_icmp_eq C.1 C.2.1 hd ht (fun h => kt h p e s m args below meth c H locs ls C P L) (fun h => kf h p e s m args below meth c H locs ls C P L)
theorem v_if_ne {x : Int32} {off : Int} {tgt : Nat} (hd : decode cc pc = .ok (.ifCond .ne off, 3)) (ht : (pc : Int) + off = (tgt : Int)) (kt : ¬ x = 0 → v_V G l y cc nL rt Z Qc cells slots tgt lv st M) (kf : x = 0 → v_V G l y cc nL rt Z Qc cells slots (pc + 3) lv st M) : v_V G l y cc nL rt Z Qc cells slots pc lv (.int x :: st) M :=
  fun p e s m args below meth c H locs ls C P L => lv_if_ne C.1 C.2.1 hd ht (fun h => kt h p e s m args below meth c H locs ls C P L) (fun h => kf h p e s m args below meth c H locs ls C P L)
theorem v_icmp_ne {x z : Int32} {off : Int} {tgt : Nat} (hd : decode cc pc = .ok (.if_icmp .ne off, 3)) (ht : (pc : Int) + off = (tgt : Int)) (kt : ¬ x = z → v_V G l y cc nL rt Z Qc cells slots tgt lv st M) (kf : x = z → v_V G l y cc nL rt Z Qc cells slots (pc + 3) lv st M) : v_V G l y cc nL rt Z Qc cells slots pc lv (.int z :: .int x :: st) M :=
  fun p e s m args below meth c H locs ls C P L => lv_icmp_ne C.1 C.2.1 hd ht (fun h => kt h p e s m args below meth c H locs ls C P L) (fun h => kf h p e s m args below meth c H locs ls C P L)
theorem v_if_lt {x : Int32} {off : Int} {tgt : Nat} (hd : decode cc pc = .ok (.ifCond .lt off, 3)) (ht : (pc : Int) + off = (tgt : Int)) (kt : x < 0 → v_V G l y cc nL rt Z Qc cells slots tgt lv st M) (kf : ¬ (x < 0) → v_V G l y cc nL rt Z Qc cells slots (pc + 3) lv st M) : v_V G l y cc nL rt Z Qc cells slots pc lv (.int x :: st) M :=
  fun p e s m args below meth c H locs ls C P L => lv_if_lt C.1 C.2.1 hd ht (fun h => kt h p e s m args below meth c H locs ls C P L) (fun h => kf h p e s m args below meth c H locs ls C P L)
theorem v_icmp_lt {x z : Int32} {off : Int} {tgt : Nat} (hd : decode cc pc = .ok (.if_icmp .lt off, 3)) (ht : (pc : Int) + off = (tgt : Int)) (kt : x < z → v_V G l y cc nL rt Z Qc cells slots tgt lv st M) (kf : ¬ (x < z) → v_V G l y cc nL rt Z Qc cells slots (pc + 3) lv st M) : v_V G l y cc nL rt Z Qc cells slots pc lv (.int z :: .int x :: st) M :=
  fun p e s m args below meth c H locs ls C P L => lv_icmp_lt C.1 C.2.1 hd ht (fun h => kt h p e s m args below meth c H locs ls C P L) (fun h => kf h p e s m args below meth c H locs ls C P L)
theorem v_if_ge {x : Int32} {off : Int} {tgt : Nat} (hd : decode cc pc = .ok (.ifCond .ge off, 3)) (ht : (pc : Int) + off = (tgt : Int)) (kt : 0 ≤ x → v_V G l y cc nL rt Z Qc cells slots tgt lv st M) (kf : ¬ (0 ≤ x) → v_V G l y cc nL rt Z Qc cells slots (pc + 3) lv st M) : v_V G l y cc nL rt Z Qc cells slots pc lv (.int x :: st) M :=
  fun p e s m args below meth c H locs ls C P L => lv_if_ge C.1 C.2.1 hd ht (fun h => kt h p e s m args below meth c H locs ls C P L) (fun h => kf h p e s m args below meth c H locs ls C P L)
theorem v_icmp_ge {x z : Int32} {off : Int} {tgt : Nat} (hd : decode cc pc = .ok (.if_icmp .ge off, 3)) (ht : (pc : Int) + off = (tgt : Int)) (kt : z ≤ x → v_V G l y cc nL rt Z Qc cells slots tgt lv st M) (kf : ¬ (z ≤ x) → v_V G l y cc nL rt Z Qc cells slots (pc + 3) lv st M) : v_V G l y cc nL rt Z Qc cells slots pc lv (.int z :: .int x :: st) M :=
  fun p e s m args below meth c H locs ls C P L => lv_icmp_ge C.1 C.2.1 hd ht (fun h => kt h p e s m args below meth c H locs ls C P L) (fun h => kf h p e s m args below meth c H locs ls C P L)
theorem v_if_gt {x : Int32} {off : Int} {tgt : Nat} (hd : decode cc pc = .ok (.ifCond .gt off, 3)) (ht : (pc : Int) + off = (tgt : Int)) (kt : 0 < x → v_V G l y cc nL rt Z Qc cells slots tgt lv st M) (kf : ¬ (0 < x) → v_V G l y cc nL rt Z Qc cells slots (pc + 3) lv st M) : v_V G l y cc nL rt Z Qc cells slots pc lv (.int x :: st) M :=
  fun p e s m args below meth c H locs ls C P L => lv_if_gt C.1 C.2.1 hd ht (fun h => kt h p e s m args below meth c H locs ls C P L) (fun h => kf h p e s m args below meth c H locs ls C P L)
theorem v_icmp_gt {x z : Int32} {off : Int} {tgt : Nat} (hd : decode cc pc = .ok (.if_icmp .gt off, 3)) (ht : (pc : Int) + off = (tgt : Int)) (kt : z < x → v_V G l y cc nL rt Z Qc cells slots tgt lv st M) (kf : ¬ (z < x) → v_V G l y cc nL rt Z Qc cells slots (pc + 3) lv st M) : v_V G l y cc nL rt Z Qc cells slots pc lv (.int z :: .int x :: st) M :=
  fun p e s m args below meth c H locs ls C P L => lv_icmp_gt C.1 C.2.1 hd ht (fun h => kt h p e s m args below meth c H locs ls C P L) (fun h => kf h p e s m args below meth c H locs ls C P L)
theorem v_if_le {x : Int32} {off : Int} {tgt : Nat} (hd : decode cc pc = .ok (.ifCond .le off, 3)) (ht : (pc : Int) + off = (tgt : Int)) (kt : x ≤ 0 → v_V G l y cc nL rt Z Qc cells slots tgt lv st M) (kf : ¬ (x ≤ 0) → v_V G l y cc nL rt Z Qc cells slots (pc + 3) lv st M) : v_V G l y cc nL rt Z Qc cells slots pc lv (.int x :: st) M :=
  fun p e s m args below meth c H locs ls C P L => lv_if_le C.1 C.2.1 hd ht (fun h => kt h p e s m args below meth c H locs ls C P L) (fun h => kf h p e s m args below meth c H locs ls C P L)
theorem v_icmp_le {x z : Int32} {off : Int} {tgt : Nat} (hd : decode cc pc = .ok (.if_icmp .le off, 3)) (ht : (pc : Int) + off = (tgt : Int)) (kt : x ≤ z → v_V G l y cc nL rt Z Qc cells slots tgt lv st M) (kf : ¬ (x ≤ z) → v_V G l y cc nL rt Z Qc cells slots (pc + 3) lv st M) : v_V G l y cc nL rt Z Qc cells slots pc lv (.int z :: .int x :: st) M :=
  fun p e s m args below meth c H locs ls C P L => lv_icmp_le C.1 C.2.1 hd ht (fun h => kt h p e s m args below meth c H locs ls C P L) (fun h => kf h p e s m args below meth c H locs ls C P L)
theorem v_goto {off : Int} {tgt : Nat} (hd : decode cc pc = .ok (.goto off, 3)) (ht : (pc : Int) + off = (tgt : Int)) (k : v_V G l y cc nL rt Z Qc cells slots tgt lv st M) : v_V G l y cc nL rt Z Qc cells slots pc lv st M :=
  fun p e s m args below meth c H locs ls C P L => lv_goto C.1 C.2.1 hd ht (k p e s m args below meth c H locs ls C P L)
theorem v_ifnull {x : Nat} {off : Int} (hd : decode cc pc = .ok (.ifnull off, 3)) (k : v_V G l y cc nL rt Z Qc cells slots (pc + 3) lv st M) : v_V G l y cc nL rt Z Qc cells slots pc lv (.ref x :: st) M :=
  fun p e s m args below meth c H locs ls C P L => lv_ifnull C.1 C.2.1 hd (k p e s m args below meth c H locs ls C P L)
theorem v_ifnonnull {x : Nat} {off : Int} {tgt : Nat} (hd : decode cc pc = .ok (.ifnonnull off, 3)) (ht : (pc : Int) + off = (tgt : Int)) (k : v_V G l y cc nL rt Z Qc cells slots tgt lv st M) : v_V G l y cc nL rt Z Qc cells slots pc lv (.ref x :: st) M :=
  fun p e s m args below meth c H locs ls C P L => lv_ifnonnull C.1 C.2.1 hd ht (k p e s m args below meth c H locs ls C P L)
theorem v_tableIn {dflt lo hi : Int} {offs : Array Int} {len : Nat} {x : Int32} {off : Int} {tgt : Nat} (hd : decode cc pc = .ok (.tableswitch dflt lo hi offs, len)) (h1 : ¬ x.toInt < lo) (h2 : ¬ hi < x.toInt) (ho : offs[(x.toInt - lo).toNat]? = some off) (ht : (pc : Int) + off = (tgt : Int)) (k : v_V G l y cc nL rt Z Qc cells slots tgt lv st M) : v_V G l y cc nL rt Z Qc cells slots pc lv (.int x :: st) M :=
  fun p e s m args below meth c H locs ls C P L => lv_tableIn C.1 C.2.1 hd h1 h2 ho ht (k p e s m args below meth c H locs ls C P L)
theorem v_tableOut {dflt lo hi : Int} {offs : Array Int} {len : Nat} {x : Int32} {tgt : Nat} (hd : decode cc pc = .ok (.tableswitch dflt lo hi offs, len)) (h : x.toInt < lo ∨ hi < x.toInt) (ht : (pc : Int) + dflt = (tgt : Int)) (k : v_V G l y cc nL rt Z Qc cells slots tgt lv st M) : v_V G l y cc nL rt Z Qc cells slots pc lv (.int x :: st) M :=
  fun p e s m args below meth c H locs ls C P L => lv_tableOut C.1 C.2.1 hd h ht (k p e s m args below meth c H locs ls C P L)
theorem v_lookup {dflt : Int} {ps : Array (Int × Int)} {len : Nat} {x : Int32} {off : Int} {tgt : Nat} (hd : decode cc pc = .ok (.lookupswitch dflt ps, len)) (hp : (ps.toList.zip (ps.toList.drop 1)).all (fun (a, next) => a.1 < next.1) = true) (ho : Op.lookupswitch.offset ps.toList dflt x.toInt = off) (ht : (pc : Int) + off = (tgt : Int)) (k : v_V G l y cc nL rt Z Qc cells slots tgt lv st M) : v_V G l y cc nL rt Z Qc cells slots pc lv (.int x :: st) M :=
  fun p e s m args below meth c H locs ls C P L => lv_lookup C.1 C.2.1 hd hp ho ht (k p e s m args below meth c H locs ls C P L)
end VROWS
