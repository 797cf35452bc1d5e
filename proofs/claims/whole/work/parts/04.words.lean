/-! WHAT THE TABLES SAY: words, and what each kind of entry asks of them -/
def wsG : List Cond := lw_tbl.filter goodWord
def v_kn : Cond → Bool
  | .methodLinkNest .. => true
  | .fieldLinkNest .. => true
  | .castable .. => true
  | .declares .. => true
  | .arrayOver (.object _) => true
  | _ => false
def wsN : List Cond := lw_tbl.filter v_kn
theorem v_in {w : Cond} (i : Nat) (h : (decide (lw_tbl[i]? = some w) && goodWord w) = true) : w ∈ wsG := by
  simp only [Bool.and_eq_true, decide_eq_true_eq] at h
  exact List.mem_filter.mpr ⟨List.mem_of_getElem? h.1, h.2⟩
theorem v_inN {w : Cond} (i : Nat) (h : (decide (lw_tbl[i]? = some w) && v_kn w) = true) : w ∈ wsN := by
  simp only [Bool.and_eq_true, decide_eq_true_eq] at h
  exact List.mem_filter.mpr ⟨List.mem_of_getElem? h.1, h.2⟩
theorem v_good {w : Cond} (h : w ∈ wsG) : (w.onTables && w.keeps) = true ∨ ∃ ty, w = .arrayClass ty := good_of_word (List.mem_filter.mp h).2
theorem v_lay {ws : List Cond} (h : ∀ w ∈ ws, w ∈ lw_tbl) (hg : ws.all goodWord = true) : ∀ w ∈ ws, w ∈ wsG := fun w hw => List.mem_filter.mpr ⟨h w hw, List.all_eq_true.mp hg w hw⟩
theorem v_i1 {w : Cond} (i : Nat) (h : (decide (tables_1_1[i]? = some w) && goodWord w) = true) : w ∈ wsG := by
  simp only [Bool.and_eq_true, decide_eq_true_eq] at h
  exact List.mem_filter.mpr ⟨List.mem_append_right _ (List.mem_append_left _ (List.mem_of_getElem? h.1)), h.2⟩
theorem v_j1 {w : Cond} (i : Nat) (h : (decide (tables_1_1[i]? = some w) && v_kn w) = true) : w ∈ wsN := by
  simp only [Bool.and_eq_true, decide_eq_true_eq] at h
  exact List.mem_filter.mpr ⟨List.mem_append_right _ (List.mem_append_left _ (List.mem_of_getElem? h.1)), h.2⟩
theorem v_i2 {w : Cond} (i : Nat) (h : (decide (tables_1_2[i]? = some w) && goodWord w) = true) : w ∈ wsG := by
  simp only [Bool.and_eq_true, decide_eq_true_eq] at h
  exact List.mem_filter.mpr ⟨List.mem_append_right _ (List.mem_append_right _ (List.mem_append_left _ (List.mem_of_getElem? h.1))), h.2⟩
theorem v_j2 {w : Cond} (i : Nat) (h : (decide (tables_1_2[i]? = some w) && v_kn w) = true) : w ∈ wsN := by
  simp only [Bool.and_eq_true, decide_eq_true_eq] at h
  exact List.mem_filter.mpr ⟨List.mem_append_right _ (List.mem_append_right _ (List.mem_append_left _ (List.mem_of_getElem? h.1))), h.2⟩
theorem v_i3 {w : Cond} (i : Nat) (h : (decide (tables_1_3[i]? = some w) && goodWord w) = true) : w ∈ wsG := by
  simp only [Bool.and_eq_true, decide_eq_true_eq] at h
  exact List.mem_filter.mpr ⟨List.mem_append_right _ (List.mem_append_right _ (List.mem_append_right _ (List.mem_append_left _ (List.mem_of_getElem? h.1)))), h.2⟩
theorem v_j3 {w : Cond} (i : Nat) (h : (decide (tables_1_3[i]? = some w) && v_kn w) = true) : w ∈ wsN := by
  simp only [Bool.and_eq_true, decide_eq_true_eq] at h
  exact List.mem_filter.mpr ⟨List.mem_append_right _ (List.mem_append_right _ (List.mem_append_right _ (List.mem_append_left _ (List.mem_of_getElem? h.1)))), h.2⟩
theorem v_i4 {w : Cond} (i : Nat) (h : (decide (tables_1_4[i]? = some w) && goodWord w) = true) : w ∈ wsG := by
  simp only [Bool.and_eq_true, decide_eq_true_eq] at h
  exact List.mem_filter.mpr ⟨List.mem_append_right _ (List.mem_append_right _ (List.mem_append_right _ (List.mem_append_right _ (List.mem_append_left _ (List.mem_of_getElem? h.1))))), h.2⟩
theorem v_j4 {w : Cond} (i : Nat) (h : (decide (tables_1_4[i]? = some w) && v_kn w) = true) : w ∈ wsN := by
  simp only [Bool.and_eq_true, decide_eq_true_eq] at h
  exact List.mem_filter.mpr ⟨List.mem_append_right _ (List.mem_append_right _ (List.mem_append_right _ (List.mem_append_right _ (List.mem_append_left _ (List.mem_of_getElem? h.1))))), h.2⟩
theorem v_i5 {w : Cond} (i : Nat) (h : (decide (tables_1_5[i]? = some w) && goodWord w) = true) : w ∈ wsG := by
  simp only [Bool.and_eq_true, decide_eq_true_eq] at h
  exact List.mem_filter.mpr ⟨List.mem_append_right _ (List.mem_append_right _ (List.mem_append_right _ (List.mem_append_right _ (List.mem_append_right _ (List.mem_append_left _ (List.mem_of_getElem? h.1)))))), h.2⟩
theorem v_j5 {w : Cond} (i : Nat) (h : (decide (tables_1_5[i]? = some w) && v_kn w) = true) : w ∈ wsN := by
  simp only [Bool.and_eq_true, decide_eq_true_eq] at h
  exact List.mem_filter.mpr ⟨List.mem_append_right _ (List.mem_append_right _ (List.mem_append_right _ (List.mem_append_right _ (List.mem_append_right _ (List.mem_append_left _ (List.mem_of_getElem? h.1)))))), h.2⟩
theorem v_i6 {w : Cond} (i : Nat) (h : (decide (tables_1_6[i]? = some w) && goodWord w) = true) : w ∈ wsG := by
  simp only [Bool.and_eq_true, decide_eq_true_eq] at h
  exact List.mem_filter.mpr ⟨List.mem_append_right _ (List.mem_append_right _ (List.mem_append_right _ (List.mem_append_right _ (List.mem_append_right _ (List.mem_append_right _ (List.mem_append_left _ (List.mem_of_getElem? h.1))))))), h.2⟩
theorem v_j6 {w : Cond} (i : Nat) (h : (decide (tables_1_6[i]? = some w) && v_kn w) = true) : w ∈ wsN := by
  simp only [Bool.and_eq_true, decide_eq_true_eq] at h
  exact List.mem_filter.mpr ⟨List.mem_append_right _ (List.mem_append_right _ (List.mem_append_right _ (List.mem_append_right _ (List.mem_append_right _ (List.mem_append_right _ (List.mem_append_left _ (List.mem_of_getElem? h.1))))))), h.2⟩
theorem v_i7 {w : Cond} (i : Nat) (h : (decide (tables_1_7[i]? = some w) && goodWord w) = true) : w ∈ wsG := by
  simp only [Bool.and_eq_true, decide_eq_true_eq] at h
  exact List.mem_filter.mpr ⟨List.mem_append_right _ (List.mem_append_right _ (List.mem_append_right _ (List.mem_append_right _ (List.mem_append_right _ (List.mem_append_right _ (List.mem_append_right _ (List.mem_of_getElem? h.1))))))), h.2⟩
theorem v_j7 {w : Cond} (i : Nat) (h : (decide (tables_1_7[i]? = some w) && v_kn w) = true) : w ∈ wsN := by
  simp only [Bool.and_eq_true, decide_eq_true_eq] at h
  exact List.mem_filter.mpr ⟨List.mem_append_right _ (List.mem_append_right _ (List.mem_append_right _ (List.mem_append_right _ (List.mem_append_right _ (List.mem_append_right _ (List.mem_append_right _ (List.mem_of_getElem? h.1))))))), h.2⟩
theorem igX0 : ∀ w ∈ wsX00, w ∈ wsG := v_lay inX0 (by decide +kernel)
theorem igX1 : ∀ w ∈ wsX10, w ∈ wsG := v_lay inX1 (by decide +kernel)
theorem igX2 : ∀ w ∈ wsX20, w ∈ wsG := v_lay inX2 (by decide +kernel)
theorem igX3 : ∀ w ∈ wsX30, w ∈ wsG := v_lay inX3 (by decide +kernel)
theorem igX4 : ∀ w ∈ wsX40, w ∈ wsG := v_lay inX4 (by decide +kernel)
theorem igX5 : ∀ w ∈ wsX50, w ∈ wsG := v_lay inX5 (by decide +kernel)
theorem igX6 : ∀ w ∈ wsX60, w ∈ wsG := v_lay inX6 (by decide +kernel)
theorem igX7 : ∀ w ∈ wsX70, w ∈ wsG := v_lay inX7 (by decide +kernel)
theorem igX8 : ∀ w ∈ wsX80, w ∈ wsG := v_lay inX8 (by decide +kernel)
theorem igX9 : ∀ w ∈ wsX90, w ∈ wsG := v_lay inX9 (by decide +kernel)
theorem igX10 : ∀ w ∈ wsX100, w ∈ wsG := v_lay inX10 (by decide +kernel)
theorem igX11 : ∀ w ∈ wsX110, w ∈ wsG := v_lay inX11 (by decide +kernel)
theorem igX12 : ∀ w ∈ wsX120, w ∈ wsG := v_lay inX12 (by decide +kernel)
/-- how the class of number ci, seen from the class own by its entry idx, holds the field k (a reference: b) -/
def v_fg (own : String) (idx ci k : Nat) (b : Bool) : Prop :=
  ∃ (C : String) (T : u_T) (N : Nat) (ref : String), vwCl[ci]? = some (C, T, N) ∧ (∀ w ∈ u_ws C T N, w ∈ wsG) ∧ k < N ∧ Cond.fieldLink own idx ref (T k).2.1 (T k).2.2.1 ∈ wsG ∧ (ref = (T k).1 ∨ Cond.sameField ref (T k).1 (T k).2.1 (T k).2.2.1 ∈ wsG) ∧ (v_fl ci)[k]? = some b ∧ ci < 13
def v_pg (own : String) (idx ci k : Nat) (b : Bool) (ty : FieldType) (fin : Bool) : Prop :=
  ∃ (C : String) (T : u_T) (N : Nat) (ref : String) (ty0 : Nat → FieldType), vwCl[ci]? = some (C, T, N) ∧ (∀ w ∈ u_ws C T N, w ∈ wsG) ∧ k < N ∧ Cond.fieldLink own idx ref (T k).2.1 (T k).2.2.1 ∈ wsG ∧ ref = (T k).1 ∧ (v_fl ci)[k]? = some b ∧ ci < 13 ∧
    (∀ j, j < N → parseFieldDescriptor (T j).2.2.1 = some (ty0 j)) ∧ (∀ a, a < N → ∀ b, b < N → a ≠ b → (T a).2.1 ≠ (T b).2.1) ∧ parseFieldDescriptor (T k).2.2.1 = some ty ∧ (T k).2.2.2 = fin ∧ (fin = true → (T k).1 = own)
def v_np (y : MethodName) (n : Nat) : Prop := y.cls ≠ "java/lang/invoke/MethodHandle" ∧ y.cls ≠ "java/lang/invoke/VarHandle" ∧ (parseMethodDescriptor y.desc).map (fun d => d.parameters.length) = some n
/-- what a call of each kind asks of the tables -/
def v_cV (own : String) (idx : Nat) (C : String) (y : MethodName) (cc : ByteArray) (nL : Nat) (rt : Option FieldType) (n : Nat) : Prop :=
  Cond.methodLink own idx y ∈ wsG ∧ Cond.instanceMethod y ∈ wsG ∧ Cond.selects C y y ∈ wsG ∧ Cond.initialized C ∈ wsG ∧ Cond.code y cc nL rt ∈ wsG ∧ y.cls = C ∧ v_np y n
def v_cU (own : String) (idx : Nat) (C owner : String) (x y : MethodName) (cc : ByteArray) (nL : Nat) (rt : Option FieldType) (n : Nat) : Prop :=
  Cond.methodLink own idx x ∈ wsG ∧ Cond.sameMethod x.cls owner x.name x.desc ∈ wsG ∧ Cond.selects C x y ∈ wsG ∧ Cond.instanceMethod y ∈ wsG ∧ Cond.initialized y.cls ∈ wsG ∧ Cond.code y cc nL rt ∈ wsG ∧
  (Cond.declares ⟨owner, x.name, x.desc⟩ ∈ wsN ∨ ∃ (b : ByteArray) (k : Nat) (r : Option FieldType), Cond.instanceMethod ⟨owner, x.name, x.desc⟩ ∈ wsG ∧ Cond.code ⟨owner, x.name, x.desc⟩ b k r ∈ wsG) ∧ (owner ≠ "java/lang/invoke/MethodHandle" ∧ owner ≠ "java/lang/invoke/VarHandle" ∧ (parseMethodDescriptor x.desc).map (fun d => d.parameters.length) = some n)
def v_cS (own : String) (idx : Nat) (y : MethodName) (cc : ByteArray) (nL : Nat) (rt : Option FieldType) (n : Nat) : Prop :=
  Cond.methodLink own idx y ∈ wsG ∧ Cond.static y ∈ wsG ∧ Cond.initialized y.cls ∈ wsG ∧ Cond.code y cc nL rt ∈ wsG ∧ v_np y n
def v_cI (own : String) (idx : Nat) (y : MethodName) (cc : ByteArray) (nL : Nat) (n : Nat) : Prop :=
  Cond.methodLink own idx y ∈ wsG ∧ Cond.instanceMethod y ∈ wsG ∧ Cond.initialized y.cls ∈ wsG ∧ Cond.code y cc nL none ∈ wsG ∧ y.name = "<init>" ∧ v_np y n
def v_cVN (own : String) (idx : Nat) (C host : String) (y : MethodName) (cc : ByteArray) (nL : Nat) (rt : Option FieldType) (n : Nat) : Prop :=
  Cond.methodLinkNest own idx y host ∈ wsN ∧ Cond.instanceMethod y ∈ wsG ∧ Cond.selects C y y ∈ wsG ∧ Cond.initialized y.cls ∈ wsG ∧ Cond.code y cc nL rt ∈ wsG ∧ v_np y n
def v_cSN (own : String) (idx : Nat) (host : String) (y : MethodName) (cc : ByteArray) (nL : Nat) (rt : Option FieldType) (n : Nat) : Prop :=
  Cond.methodLinkNest own idx y host ∈ wsN ∧ Cond.static y ∈ wsG ∧ Cond.initialized y.cls ∈ wsG ∧ Cond.code y cc nL rt ∈ wsG ∧ v_np y n
def v_cIN (own : String) (idx : Nat) (host : String) (y : MethodName) (cc : ByteArray) (nL : Nat) (n : Nat) : Prop :=
  Cond.methodLinkNest own idx y host ∈ wsN ∧ Cond.instanceMethod y ∈ wsG ∧ Cond.initialized y.cls ∈ wsG ∧ Cond.code y cc nL none ∈ wsG ∧ y.name = "<init>" ∧ v_np y n
def v_cP (own : String) (idx : Nat) (y : MethodName) (cc : ByteArray) (nL : Nat) (rt : Option FieldType) (n : Nat) : Prop :=
  Cond.methodLink own idx y ∈ wsG ∧ Cond.sameMethod y.cls y.cls y.name y.desc ∈ wsG ∧ Cond.superclass own y.cls ∈ wsG ∧ Cond.instanceMethod y ∈ wsG ∧ Cond.initialized y.cls ∈ wsG ∧ Cond.code y cc nL rt ∈ wsG ∧ y.name ≠ "<init>" ∧ (parseMethodDescriptor y.desc).map (fun d => d.parameters.length) = some n
/-- a new object -/
def v_nw (own : String) (idx ci N : Nat) : Prop :=
  ∃ (C : String) (T : u_T) (ty0 : Nat → FieldType), vwCl[ci]? = some (C, T, N) ∧ (∀ w ∈ u_ws C T N, w ∈ wsG) ∧ (∀ j, j < N → parseFieldDescriptor (T j).2.2.1 = some (ty0 j)) ∧ Cond.classLink own idx C ∈ wsG ∧ Cond.instantiable C N ∈ wsG ∧ Cond.initialized C ∈ wsG ∧ (∀ j, j < N → defaultValue (ty0 j) = if (v_fl ci).getD j false = true then Value.null else Value.int 0) ∧ (v_fl ci).length = N ∧ ci < 13
/-- what a call of arraycopy asks of the tables -/
def v_cA (own : String) (idx : Nat) : Prop := Cond.methodLink own idx arraycopyName ∈ wsG ∧ Cond.native arraycopyName ∈ wsG ∧ Cond.static arraycopyName ∈ wsG ∧ Cond.initialized "java/lang/System" ∈ wsG
/-- a class's castability, or itself -/
def v_cst (ci : Nat) (E : String) : Prop := ∃ q : vw_C, vwCl[ci]? = some q ∧ ci < 13 ∧ (q.1 = E ∨ Cond.castable q.1 E ∈ wsN)
