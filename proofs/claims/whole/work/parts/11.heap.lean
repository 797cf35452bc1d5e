/-! HEAP ROWS, ANSWERS, CALLS -/
theorem v_fs_at {G : v_G} {I : Nat → Nat → Int32} {R : Nat → Nat → Option Nat} {h ci k : Nat} {b : Bool} (hf : (v_fl ci)[k]? = some b) : (v_fs G I R h ci)[k]? = some (if b then va_rf ((R h k).map (v_ad G)) else .int (I h k)) := by
  simp [v_fs, List.getElem?_mapIdx, hf]
theorem v_fs_len {G : v_G} {I : Nat → Nat → Int32} {R : Nat → Nat → Option Nat} {h ci : Nat} : (v_fs G I R h ci).length = (v_fl ci).length := by simp [v_fs]
theorem v_fs_seti {G : v_G} {I : Nat → Nat → Int32} {R : Nat → Nat → Option Nat} {h ci k : Nat} {x : Int32} (hf : (v_fl ci)[k]? = some false) : (v_fs G I R h ci).set k (.int x) = v_fs G (v_u I h k x) R h ci := by
  apply List.ext_getElem?
  intro j
  by_cases hj : j = k
  · subst hj
    rw [List.getElem?_set_self (by rw [v_fs_len]; exact (List.getElem?_eq_some_iff.mp hf).1), v_fs_at hf]
    simp [v_u]
  · rw [List.getElem?_set_ne (Ne.symm hj)]
    simp [v_fs, List.getElem?_mapIdx, v_u, hj]
theorem v_fs_setr {G : v_G} {I : Nat → Nat → Int32} {R : Nat → Nat → Option Nat} {h ci k : Nat} {x : Option Nat} (hf : (v_fl ci)[k]? = some true) : (v_fs G I R h ci).set k (va_rf (x.map (v_ad G))) = v_fs G I (v_u R h k x) h ci := by
  apply List.ext_getElem?
  intro j
  by_cases hj : j = k
  · subst hj
    rw [List.getElem?_set_self (by rw [v_fs_len]; exact (List.getElem?_eq_some_iff.mp hf).1), v_fs_at hf]
    simp [v_u]
  · rw [List.getElem?_set_ne (Ne.symm hj)]
    simp [v_fs, List.getElem?_mapIdx, v_u, hj]
theorem v_cell_obj {G : v_G} {K : Nat × v_TY} {I : Nat → Nat → Int32} {J : Nat → Nat → Int64} {R : Nat → Nat → Option Nat} {h k n : Nat} (hi : v_is K h k n) (hk : k < 13) : v_cell G K I J R h = .inr (k, v_fs G I R h k) := by
  simp [v_cell, hi.2, hk]
theorem v_cell_neI {G : v_G} {K : Nat × v_TY} {I : Nat → Nat → Int32} {J : Nat → Nat → Int64} {R : Nat → Nat → Option Nat} {h k : Nat} {x : Int32} (a : Nat) (ha : a ≠ h) : v_cell G K (v_u I h k x) J R a = v_cell G K I J R a := by
  have e : v_u I h k x a = I a := by funext b; simp [v_u, ha]
  have e2 : ∀ ci, v_fs G (v_u I h k x) R a ci = v_fs G I R a ci := fun ci => by simp [v_fs, e]
  simp [v_cell, e, e2]
theorem v_cell_neR {G : v_G} {K : Nat × v_TY} {I : Nat → Nat → Int32} {J : Nat → Nat → Int64} {R : Nat → Nat → Option Nat} {h k : Nat} {x : Option Nat} (a : Nat) (ha : a ≠ h) : v_cell G K I J (v_u R h k x) a = v_cell G K I J R a := by
  have e : v_u R h k x a = R a := by funext b; simp [v_u, ha]
  have e2 : ∀ ci, v_fs G I (v_u R h k x) a ci = v_fs G I R a ci := fun ci => by simp [v_fs, e]
  simp [v_cell, e, e2]
theorem v_cell_neJ {G : v_G} {K : Nat × v_TY} {I : Nat → Nat → Int32} {J : Nat → Nat → Int64} {R : Nat → Nat → Option Nat} {h k : Nat} {x : Int64} (a : Nat) (ha : a ≠ h) : v_cell G K I (v_u J h k x) R a = v_cell G K I J R a := by
  have e : v_u J h k x a = J a := by funext b; simp [v_u, ha]
  simp [v_cell, e]
def v_Qi (G : v_G) (Post : Int32 → v_MM → Prop) : Array Value → State → Outcome → State → Prop := va_Qi Post (v_Wx G) (v_A G)
def v_Ql (G : v_G) (Post : Int64 → v_MM → Prop) : Array Value → State → Outcome → State → Prop := va_Ql Post (v_Wx G) (v_A G)
def v_Qv (G : v_G) (Post : v_MM → Prop) : Array Value → State → Outcome → State → Prop := va_Qv Post (v_Wx G) (v_A G)
/-- an answer that is a handle, or null -/
def v_Qr (G : v_G) (Post : Option Nat → v_MM → Prop) : Array Value → State → Outcome → State → Prop := va_Qq (fun r (u : Option Nat × v_MM) => r = u.1.map (v_ad G) ∧ Post u.1 u.2) (fun u => v_Wx G u.2) (v_A G)
def v_wy (y : MethodName) (cc : ByteArray) (nL : Nat) (rt : Option FieldType) : List Cond := Cond.code y cc nL rt :: wsG
/-- a method's contract over the pure memory -/
def v_M (G : v_G) (l : Launch) (y : MethodName) (cc : ByteArray) (nL : Nat) (rt : Option FieldType) (Z : Room) (av : List Value) (M : v_MM) (Qc : Array Value → State → Outcome → State → Prop) : Prop :=
  Met l y (v_wy y cc nL rt) Z (va_Pc (av.map (v_tv G)) (v_We G M)) Qc Z.cells Z.slots (v_A G)
section VROWS2
variable {G : v_G} {l : Launch} {y : MethodName} {cc : ByteArray} {nL : Nat} {rt : Option FieldType} {Z : Room} {Qc : Array Value → State → Outcome → State → Prop} {cells slots pc : Nat} {lv : List (Option Value)} {st : List Value} {M : v_MM}
variable {K : Nat × v_TY} {I : Nat → Nat → Int32} {J : Nat → Nat → Int64} {R : Nat → Nat → Option Nat} {h n : Nat}
theorem v_of {av : List Value} (lv0 : List (Option Value)) (hpl : plainName y.cls = true) (hlen : (lg_sl (av.map (v_tv G))).length ≤ nL) (hl0 : lv0.length ≤ nL) (hlv : v_as G lv0 = lv_args 0 (av.map (v_tv G))) (k : v_V G l y cc nL rt Z Qc 0 0 0 lv0 [] M) : v_M G l y cc nL rt Z av M Qc := by
  refine Met.ofW (cc := cc) (maxL := nL) (ret := rt) hpl rfl ?_
  intro p e s m args below meth c s₁ B hml hv
  obtain ⟨rfl, ⟨hP, hsz, hn⟩, hK, hX⟩ := hv
  have hts := atoms_spec (ws := v_wy y cc nL rt) B.pre
  have hown : s.vm.findClass y.cls = some m.cls := findClass_of_methodNamed B.named
  have hl := lv_entry (av.map (v_tv G)) (n := nL) hlen
  rw [lg_entry_eq]
  exact k p e s m _ below meth c s.heap [] _ ⟨B.exec, B.bytes, hml, hown, fun w hw => hts w (List.mem_cons_of_mem _ hw), B.returns, B.notSynchronized, (name_of_methodNamed B.named B.method).1, hK, hX, by omega⟩ ⟨hP, hsz, hn, va_S.rf⟩ ⟨by rw [hlv]; exact hl, hl0⟩
theorem v_getI {idx ci k : Nat} (hg : v_fg y.cls idx ci k false) (hd : decode cc pc = .ok (.getfield idx, 3)) (hi : v_is K h ci n) (kk : v_V G l y cc nL rt Z Qc cells slots (pc + 3) lv (.int (I h k) :: st) (K, I, J, R)) : v_V G l y cc nL rt Z Qc cells slots pc lv (.ref h :: st) (K, I, J, R) := by
  intro p e s m args below meth c H locs ls C P L
  obtain ⟨C0, T, N, ref, g1, g2, g3, g4, g5, g6, g7⟩ := hg
  exact va_get C.1 C.2.1 C.2.2.2.2.1 g2 C.2.2.2.1 C.2.2.2.2.2.2.2.2.1 P.1 h (v_at_obj hi g7) g1 k g3 (C.2.2.2.2.1 _ g4) (fun x hx => by
    rcases g5 with g5 | g5
    · rw [g5]; exact hx
    · exact u_same (C.2.2.2.2.1 _ g5) x hx) (v_fs_at g6) hd (kk p e s m args below meth c H locs ls C P L)
theorem v_getR {idx ci k : Nat} {r : Option Nat} (hg : v_fg y.cls idx ci k true) (hd : decode cc pc = .ok (.getfield idx, 3)) (hi : v_is K h ci n) (hr : R h k = r) (kk : v_V G l y cc nL rt Z Qc cells slots (pc + 3) lv (va_rf r :: st) (K, I, J, R)) : v_V G l y cc nL rt Z Qc cells slots pc lv (.ref h :: st) (K, I, J, R) := by
  intro p e s m args below meth c H locs ls C P L
  obtain ⟨C0, T, N, ref, g1, g2, g3, g4, g5, g6, g7⟩ := hg
  refine va_get C.1 C.2.1 C.2.2.2.2.1 g2 C.2.2.2.1 C.2.2.2.2.2.2.2.2.1 P.1 h (v_at_obj hi g7) g1 k g3 (C.2.2.2.2.1 _ g4) (fun x hx => by
    rcases g5 with g5 | g5
    · rw [g5]; exact hx
    · exact u_same (C.2.2.2.2.1 _ g5) x hx) (v_fs_at g6) hd ?_
  have := kk p e s m args below meth c H locs ls C P L
  rw [List.map_cons, v_tv_rf] at this
  rw [if_pos rfl, hr]
  exact this
/-- a write into the cell of handle h -/
theorem v_wr {s : State} {H H1 : Heap} {locs : List Loc} {I' : Nat → Nat → Int32} {J' : Nat → Nat → Int64} {R' : Nat → Nat → Option Nat} {L : List Loc} (P : v_Rp G (K, I, J, R) s H locs) (hh : h < K.1) (he : va_at G.1 vwCl (v_ad G h, v_cell G K I' J' R' h) H1) (hne : ∀ a, a ≠ h → v_cell G K I' J' R' a = v_cell G K I J R a)
    (z : H1.size = H.size) (oq : ∀ q : Nat, q ≠ v_ad G h → H1[q]? = H[q]?) (hL : ∀ q ∈ L, q.base = v_ad G h) : v_Rp G (K, I', J', R') s H1 (locs ++ L) := by
  have hA : v_A G (v_ad G h) := by
    show G.2.2.1 ≤ v_ad G h
    have := P.2.2.1
    rw [v_ad_lt (by have : K.1 ≤ 1000000 := P.2.2.1; omega)]; omega
  have hP := P.1.set (v_D P.2.2.1) (v_ws_at (M := (K, I, J, R)) hh) he oq
  rw [v_ws_set rfl hne] at hP
  refine ⟨hP, z.trans P.2.1, P.2.2.1, by rw [z]; exact P.2.2.2.1, fun q h1 h2 => ?_, fun q hq => ?_⟩
  · rw [oq q (fun e => h2 (by rw [e]; exact hA))]
    exact P.2.2.2.2.1 q h1 h2
  · rcases List.mem_append.mp hq with h1 | h1
    · exact P.2.2.2.2.2 q h1
    · rw [hL q h1]; exact hA
theorem v_cell_int {k : Nat} (hi : v_is K h k n) (hk : k = 13 ∨ k = 14 ∨ k = 16) : v_cell G K I J R h = .inl (G.2.1 k, n, .inl (I h)) := by
  rcases hk with rfl | rfl | rfl <;> simp [v_cell, hi.2]
theorem v_cell_long (hi : v_is K h 15 n) : v_cell G K I J R h = .inl (G.2.1 15, n, .inr (.inl (J h))) := by simp [v_cell, hi.2]
theorem v_cell_ref {k : Nat} (hi : v_is K h k n) (hk : k = 17 ∨ k = 18) : v_cell G K I J R h = .inl (G.2.1 k, n, .inr (.inr (.inr (.inr (fun j => (R h j).map (v_ad G)))))) := by
  rcases hk with rfl | rfl <;> simp [v_cell, hi.2]
/-- the field's cell, ahead of a putfield and behind it -/
theorem v_putW {p : Program} {e : Env} {s : State} {m : MethodId} {args : Array Value} {below : List Frame} {meth : Method} {c : Code} {H : Heap} {locs : List Loc} {ls : Array Slot} {Q : State → Prop} {rest : List Value} {idx ci k : Nat} {b fin : Bool} {ty : FieldType} {w : Value} {I' : Nat → Nat → Int32} {R' : Nat → Nat → Option Nat}
    (C : v_C G l y cc nL rt p s m args meth c) (P : v_Rp G (K, I, J, R) s H locs) (hg : v_pg y.cls idx ci k b ty fin) (hin : fin = true → y.name = "<init>") (hd : decode cc pc = .ok (.putfield idx, 3)) (hi : v_is K h ci n) (hn : narrow ty w = w) (hfit : fits ty w = true)
    (hfs : (v_fs G I R h ci).set k w = v_fs G I' R' h ci) (hne : ∀ a, a ≠ h → v_cell G K I' J R' a = v_cell G K I J R a)
    (kk : ∀ (H1 : Heap) (locs1 : List Loc), v_Rp G (K, I', J, R') s H1 locs1 → W p l e Z s m args below meth c H1 locs1 cells slots Q (F0 m (pc + 3) ls rest)) :
    W p l e Z s m args below meth c H locs cells slots Q (F0 m pc ls (w :: .ref (v_ad G h) :: rest)) := by
  obtain ⟨C0, T, N, ref, ty0, g1, g2, g3, g4, g5, g6, g7, g8, g9, g10, g11, g12⟩ := hg
  have hap := va_apart (own := y.cls) C.2.2.2.2.1 g2 ty0 g8 g9 C.2.2.2.2.2.2.2.2.1 g1
  obtain ⟨r, h1, cell, q1, q2, q3, q4⟩ := P.1 h _ (v_at_obj hi g7)
  have hr : r = (C0, T, N) := Option.some.inj (h1.symm.trans g1)
  subst hr
  obtain ⟨hS, hfc, kC, hkC, hkind⟩ := C.2.2.2.2.2.2.2.2.1.1 ci _ g1
  obtain ⟨cf, kf, fi, f, hif, hsl⟩ := hS k g3
  have hlay := C.2.2.2.2.1 _ (g2 _ (u_in_lay g3))
  have hst := (u_facts hfc hkC (u_lays C.2.2.2.2.1 g2 g3) hif).1
  have key : ∀ H1 : Heap, H1[v_ad G h]? = some (cell.setSlot f.slot w) → va_at G.1 vwCl (v_ad G h, v_cell G K I' J R' h) H1 := by
    intro H1 e1
    rw [v_cell_obj hi g7, ← hfs]
    rw [hsl] at e1
    exact ⟨_, g1, t_OB.to (V := updV (vp_V (v_fs G I R h ci)) k w) ⟨_, e1, q2, q3, t_set q4 hap g3 w⟩ (fun j _ => vp_updV_set (by rw [v_fs_len]; exact (List.getElem?_eq_some_iff.mp g6).1) w j)⟩
  cases fin with
  | false =>
    unfold u_lay at hlay
    rw [if_neg (by rw [g11]; decide)] at hlay
    have h6 := u_store hfc hkC hkind hlay hif g10 hn hfit
    exact W.putK C.1 C.2.1 (f := f) ⟨C.2.2.2.1, C.2.2.2.2.1 _ g4, ⟨_, _, _, by rw [g5]; exact hif⟩, hst⟩ (by rw [q2]; exact h6) q1 q3 (by rw [hsl]; exact k2_hasslot (q4 k g3)) rfl rfl hd fun H' e1 e2 e3 =>
      kk H' _ (v_wr P hi.1 (key H' e1) hne e2 e3 (fun q hq => by rw [List.mem_singleton.mp hq]))
  | true =>
    unfold u_lay at hlay
    rw [if_pos g11] at hlay
    have hcf : m.cls = cf := by
      obtain ⟨_, _, c', _, _, _, -, -, hf', -, -, -, hown2, -⟩ := Cond.laysFinal_spec hlay
      have e1 : c' = cf := by have := hif.symm.trans hf'; simp at this; exact this.1.symm
      rw [g12 rfl] at hown2
      rw [← e1]; exact Option.some.inj (C.2.2.2.1.symm.trans hown2)
    have h6 := u_fits hfc hkC hkind (Or.inr hlay) hif g10 hn hfit
    exact W.putFinK C.1 C.2.1 C.2.2.2.1 (C.2.2.2.2.1 _ g4) (by rw [g5]; exact hif) hst hcf (C.2.2.2.2.2.2.2.1.trans (hin rfl)) (by rw [q2]; exact h6) q1 q3 (by rw [hsl]; exact k2_hasslot (q4 k g3)) rfl rfl hd fun H' e1 e2 e3 =>
      kk H' _ (v_wr P hi.1 (key H' e1) hne e2 e3 (fun q hq => by rw [List.mem_singleton.mp hq]))
theorem v_pg_f {own : String} {idx ci k : Nat} {b fin : Bool} {ty : FieldType} (hg : v_pg own idx ci k b ty fin) : (v_fl ci)[k]? = some b := by
  obtain ⟨C0, T, N, ref, ty0, g1, g2, g3, g4, g5, g6, g7⟩ := hg
  exact g6
theorem v_putI {idx ci k : Nat} {ty : FieldType} {fin : Bool} {x : Int32} (hg : v_pg y.cls idx ci k false ty fin) (hin : fin = true → y.name = "<init>") (hd : decode cc pc = .ok (.putfield idx, 3)) (hi : v_is K h ci n) (hn : narrow ty (.int x) = .int x) (hfit : fits ty (.int x) = true) (kk : v_V G l y cc nL rt Z Qc cells slots (pc + 3) lv st (K, v_u I h k x, J, R)) : v_V G l y cc nL rt Z Qc cells slots pc lv (.int x :: .ref h :: st) (K, I, J, R) :=
  fun p e s m args below meth c H locs ls C P L => v_putW C P hg hin hd hi hn hfit (v_fs_seti (v_pg_f hg)) v_cell_neI (fun H1 locs1 P1 => kk p e s m args below meth c H1 locs1 ls C P1 L)
theorem v_putR {idx ci k : Nat} {ty : FieldType} {fin : Bool} {r : Option Nat} (hg : v_pg y.cls idx ci k true ty fin) (hin : fin = true → y.name = "<init>") (hd : decode cc pc = .ok (.putfield idx, 3)) (hi : v_is K h ci n) (hn : ∀ w : Value, narrow ty w = w) (hfit : fits ty (va_rf (r.map (v_ad G))) = true) (kk : v_V G l y cc nL rt Z Qc cells slots (pc + 3) lv st (K, I, J, v_u R h k r)) : v_V G l y cc nL rt Z Qc cells slots pc lv (va_rf r :: .ref h :: st) (K, I, J, R) := by
  intro p e s m args below meth c H locs ls C P L
  rw [List.map_cons, v_tv_rf]
  exact v_putW C P hg hin hd hi (hn _) hfit (v_fs_setr (v_pg_f hg)) v_cell_neR (fun H1 locs1 P1 => kk p e s m args below meth c H1 locs1 ls C P1 L)
/-- arrays of ints, bytes, booleans: loads, stores -/
theorem v_iaload {i : Int32} (hd : decode cc pc = .ok (.iaload, 1)) (hi : v_is K h 14 n) (hin : vp_in i n) (kk : v_V G l y cc nL rt Z Qc cells slots (pc + 1) lv (.int (I h i.toNatClampNeg) :: st) (K, I, J, R)) : v_V G l y cc nL rt Z Qc cells slots pc lv (.int i :: .ref h :: st) (K, I, J, R) :=
  fun p e s m args below meth c H locs ls C P L => va_iald C.1 C.2.1 C.2.2.2.2.2.2.2.2.1 P.1 h 1 (v_at_int hi (by omega)) rfl hin hd (kk p e s m args below meth c H locs ls C P L)
theorem v_baload {i : Int32} (hd : decode cc pc = .ok (.baload, 1)) (hi : v_is K h 13 n) (hin : vp_in i n) (kk : v_V G l y cc nL rt Z Qc cells slots (pc + 1) lv (.int (I h i.toNatClampNeg) :: st) (K, I, J, R)) : v_V G l y cc nL rt Z Qc cells slots pc lv (.int i :: .ref h :: st) (K, I, J, R) :=
  fun p e s m args below meth c H locs ls C P L => va_bald C.1 C.2.1 C.2.2.2.2.2.2.2.2.1 P.1 h 0 (v_at_int hi (by omega)) rfl hin hd (kk p e s m args below meth c H locs ls C P L)
theorem v_zaload {i : Int32} (hd : decode cc pc = .ok (.baload, 1)) (hi : v_is K h 16 n) (hin : vp_in i n) (kk : v_V G l y cc nL rt Z Qc cells slots (pc + 1) lv (.int (I h i.toNatClampNeg) :: st) (K, I, J, R)) : v_V G l y cc nL rt Z Qc cells slots pc lv (.int i :: .ref h :: st) (K, I, J, R) :=
  fun p e s m args below meth c H locs ls C P L => va_zald C.1 C.2.1 C.2.2.2.2.2.2.2.2.1 P.1 h 3 (v_at_int hi (by omega)) rfl hin hd (kk p e s m args below meth c H locs ls C P L)
theorem v_iastore {i : Int32} {x : Int32} (hd : decode cc pc = .ok (.iastore, 1)) (hi : v_is K h 14 n) (hin : vp_in i n) (kk : v_V G l y cc nL rt Z Qc cells slots (pc + 1) lv st (K, v_u I h i.toNatClampNeg x, J, R)) : v_V G l y cc nL rt Z Qc cells slots pc lv (.int x :: .int i :: .ref h :: st) (K, I, J, R) := by
  intro p e s m args below meth c H locs ls C P L
  refine W.iast C.1 C.2.1 (P.1 h _ (v_at_int hi (by omega))) ((C.2.2.2.2.2.2.2.2.1.2 1 _ rfl).1 n (fun j => .int (I h j))) (fun q => by cases q) (by show ¬ (i < 0 ∨ (arrV _ _ _).slots.size ≤ _); rw [arrV_size]; exact hin) rfl rfl hd fun H1 e1 z oq => ?_
  refine kk p e s m args below meth c H1 _ ls C (v_wr P hi.1 ?_ v_cell_neI z oq (fun q hq => by rw [List.mem_singleton.mp hq])) L
  rw [v_cell_int hi (by omega)]
  show H1[v_ad G h]? = some (vp_cell _ _)
  rw [e1, vp_cell_i, vp_cell_i, arrV_store]
  congr 2
  funext q
  by_cases hq : q = i.toNatClampNeg
  · subst hq
    simp [updV, v_u, vp_nar]
    try rfl
  · simp [updV, v_u, hq]
theorem v_bastore {i : Int32} {x : Int32} (hd : decode cc pc = .ok (.bastore, 1)) (hi : v_is K h 13 n) (hin : vp_in i n) (kk : v_V G l y cc nL rt Z Qc cells slots (pc + 1) lv st (K, v_u I h i.toNatClampNeg (vp_nar .byte x), J, R)) : v_V G l y cc nL rt Z Qc cells slots pc lv (.int x :: .int i :: .ref h :: st) (K, I, J, R) := by
  intro p e s m args below meth c H locs ls C P L
  refine W.bast C.1 C.2.1 (P.1 h _ (v_at_int hi (by omega))) ((C.2.2.2.2.2.2.2.2.1.2 0 _ rfl).1 n (fun j => .int (I h j))) (fun q => by cases q) (by show ¬ (i < 0 ∨ (arrV _ _ _).slots.size ≤ _); rw [arrV_size]; exact hin) rfl rfl hd fun H1 e1 z oq => ?_
  refine kk p e s m args below meth c H1 _ ls C (v_wr P hi.1 ?_ v_cell_neI z oq (fun q hq => by rw [List.mem_singleton.mp hq])) L
  rw [v_cell_int hi (by omega)]
  show H1[v_ad G h]? = some (vp_cell _ _)
  rw [e1, vp_cell_i, vp_cell_i, arrV_store]
  congr 2
  funext q
  by_cases hq : q = i.toNatClampNeg
  · subst hq
    simp [updV, v_u, vp_nar]
    try rfl
  · simp [updV, v_u, hq]
theorem v_zastore {i : Int32} {x : Int32} (hd : decode cc pc = .ok (.bastore, 1)) (hi : v_is K h 16 n) (hin : vp_in i n) (kk : v_V G l y cc nL rt Z Qc cells slots (pc + 1) lv st (K, v_u I h i.toNatClampNeg (vp_nar .boolean x), J, R)) : v_V G l y cc nL rt Z Qc cells slots pc lv (.int x :: .int i :: .ref h :: st) (K, I, J, R) := by
  intro p e s m args below meth c H locs ls C P L
  refine W.zast C.1 C.2.1 (P.1 h _ (v_at_int hi (by omega))) ((C.2.2.2.2.2.2.2.2.1.2 3 _ rfl).1 n (fun j => .int (I h j))) (fun q => by cases q) (by show ¬ (i < 0 ∨ (arrV _ _ _).slots.size ≤ _); rw [arrV_size]; exact hin) rfl rfl hd fun H1 e1 z oq => ?_
  refine kk p e s m args below meth c H1 _ ls C (v_wr P hi.1 ?_ v_cell_neI z oq (fun q hq => by rw [List.mem_singleton.mp hq])) L
  rw [v_cell_int hi (by omega)]
  show H1[v_ad G h]? = some (vp_cell _ _)
  rw [e1, vp_cell_i, vp_cell_i, arrV_store]
  congr 2
  funext q
  by_cases hq : q = i.toNatClampNeg
  · subst hq
    simp [updV, v_u, vp_nar]
    try rfl
  · simp [updV, v_u, hq]
theorem v_laload {i : Int32} (hd : decode cc pc = .ok (.laload, 1)) (hi : v_is K h 15 n) (hin : vp_in i n) (kk : v_V G l y cc nL rt Z Qc cells slots (pc + 1) lv (.long (J h i.toNatClampNeg) :: st) (K, I, J, R)) : v_V G l y cc nL rt Z Qc cells slots pc lv (.int i :: .ref h :: st) (K, I, J, R) :=
  fun p e s m args below meth c H locs ls C P L => va_lald C.1 C.2.1 C.2.2.2.2.2.2.2.2.1 P.1 h 2 (v_at_long hi) rfl hin hd (kk p e s m args below meth c H locs ls C P L)
theorem v_lastore {i : Int32} {x : Int64} (hd : decode cc pc = .ok (.lastore, 1)) (hi : v_is K h 15 n) (hin : vp_in i n) (kk : v_V G l y cc nL rt Z Qc cells slots (pc + 1) lv st (K, I, v_u J h i.toNatClampNeg x, R)) : v_V G l y cc nL rt Z Qc cells slots pc lv (.long x :: .int i :: .ref h :: st) (K, I, J, R) := by
  intro p e s m args below meth c H locs ls C P L
  refine W.last C.1 C.2.1 (P.1 h _ (v_at_long hi)) ((C.2.2.2.2.2.2.2.2.1.2 2 _ rfl).1 n (fun j => .long (J h j))) (fun q => by cases q) (by show ¬ (i < 0 ∨ (arrV _ _ _).slots.size ≤ _); rw [arrV_size]; exact hin) rfl rfl hd fun H1 e1 z oq => ?_
  refine kk p e s m args below meth c H1 _ ls C (v_wr P hi.1 ?_ v_cell_neJ z oq (fun q hq => by rw [List.mem_singleton.mp hq])) L
  rw [v_cell_long hi]
  show H1[v_ad G h]? = some (vp_cell _ _)
  rw [e1, vp_cell_l, vp_cell_l, arrV_store]
  congr 2
  funext q
  by_cases hq : q = i.toNatClampNeg
  · subst hq; simp [updV, v_u]
  · simp [updV, v_u, hq]
theorem v_aaload {i : Int32} {k : Nat} {r : Option Nat} (hd : decode cc pc = .ok (.aaload, 1)) (hi : v_is K h k n) (hk : k = 17 ∨ k = 18) (hin : vp_in i n) (hr : R h i.toNatClampNeg = r) (kk : v_V G l y cc nL rt Z Qc cells slots (pc + 1) lv (va_rf r :: st) (K, I, J, R)) : v_V G l y cc nL rt Z Qc cells slots pc lv (.int i :: .ref h :: st) (K, I, J, R) := by
  intro p e s m args below meth c H locs ls C P L
  have k2 := kk p e s m args below meth c H locs ls C P L
  rw [List.map_cons, v_tv_rf, ← hr] at k2
  rcases hk with rfl | rfl
  · exact va_aldq C.1 C.2.1 C.2.2.2.2.2.2.2.2.1 P.1 h 4 (v_at_ref hi (Or.inl rfl)) rfl hin hd k2
  · exact va_aldq C.1 C.2.1 C.2.2.2.2.2.2.2.2.1 P.1 h 5 (v_at_ref hi (Or.inr rfl)) rfl hin hd k2
theorem v_alen {k : Nat} {v : Int32} (hd : decode cc pc = .ok (.arraylength, 1)) (hi : v_is K h k n) (hk : 13 ≤ k ∧ k < 19) (hv : Int32.ofNat n = v) (kk : v_V G l y cc nL rt Z Qc cells slots (pc + 1) lv (.int v :: st) (K, I, J, R)) : v_V G l y cc nL rt Z Qc cells slots pc lv (.ref h :: st) (K, I, J, R) := by
  intro p e s m args below meth c H locs ls C P L
  have k2 := kk p e s m args below meth c H locs ls C P L
  rcases (show k = 13 ∨ k = 14 ∨ k = 15 ∨ k = 16 ∨ k = 17 ∨ k = 18 by omega) with rfl | rfl | rfl | rfl | rfl | rfl
  · exact va_alen C.1 C.2.1 C.2.2.2.2.2.2.2.2.1 P.1 h 0 (v_at_int hi (by omega)) rfl hv hd k2
  · exact va_alen C.1 C.2.1 C.2.2.2.2.2.2.2.2.1 P.1 h 1 (v_at_int hi (by omega)) rfl hv hd k2
  · exact va_alen C.1 C.2.1 C.2.2.2.2.2.2.2.2.1 P.1 h 2 (v_at_long hi) rfl hv hd k2
  · exact va_alen C.1 C.2.1 C.2.2.2.2.2.2.2.2.1 P.1 h 3 (v_at_int hi (by omega)) rfl hv hd k2
  · exact va_alen C.1 C.2.1 C.2.2.2.2.2.2.2.2.1 P.1 h 4 (v_at_ref hi (by omega)) rfl hv hd k2
  · exact va_alen C.1 C.2.1 C.2.2.2.2.2.2.2.2.1 P.1 h 5 (v_at_ref hi (by omega)) rfl hv hd k2
/-- answers -/
theorem v_wx {s t : State} {H : Heap} {locs : List Loc} (P : v_Rp G M s H locs) (ht : t.heap = H) : v_Wx G M t := ⟨by rw [ht]; exact P.1, by rw [ht]; exact P.2.1, P.2.2.1⟩
theorem v_iret {Post : Int32 → v_MM → Prop} {ty : FieldType} {x : Int32} (hd : decode cc pc = .ok (.ireturn, 1)) (hrt : rt = some ty) (hn : narrow ty (.int x) = .int x) (hc : cells ≤ Z.cells) (hs : slots ≤ Z.slots) (hq : Post x M) : v_V G l y cc nL rt Z (v_Qi G Post) cells slots pc lv [.int x] M :=
  fun p e s m args below meth c H locs ls C P L => W.widen hc hs (W.zret C.1 C.2.1 (C.2.2.2.2.2.1.trans hrt) hn (fun t ht hW => ⟨⟨x, M, rfl, hq, v_wx P ht⟩, P.2.2.2.F ht⟩) P.2.2.2.2.2 hd C.2.2.2.2.2.2.1)
theorem v_lret {Post : Int64 → v_MM → Prop} {x : Int64} (hd : decode cc pc = .ok (.lreturn, 1)) (hrt : rt = some .long) (hc : cells ≤ Z.cells) (hs : slots ≤ Z.slots) (hq : Post x M) : v_V G l y cc nL rt Z (v_Ql G Post) cells slots pc lv [.long x] M :=
  fun p e s m args below meth c H locs ls C P L => W.widen hc hs (W.lret C.1 C.2.1 (C.2.2.2.2.2.1.trans hrt) (fun t ht hW => ⟨⟨x, M, rfl, hq, v_wx P ht⟩, P.2.2.2.F ht⟩) P.2.2.2.2.2 hd C.2.2.2.2.2.2.1)
theorem v_vret {Post : v_MM → Prop} (hd : decode cc pc = .ok (.return_, 1)) (hrt : rt = none) (hc : cells ≤ Z.cells) (hs : slots ≤ Z.slots) (hq : Post M) : v_V G l y cc nL rt Z (v_Qv G Post) cells slots pc lv [] M :=
  fun p e s m args below meth c H locs ls C P L => W.widen hc hs (W.vret C.1 C.2.1 (C.2.2.2.2.2.1.trans hrt) (fun t ht hW => ⟨⟨M, rfl, hq, v_wx P ht⟩, P.2.2.2.F ht⟩) P.2.2.2.2.2 hd C.2.2.2.2.2.2.1)
theorem v_aret {Post : Option Nat → v_MM → Prop} {nm : String} {r : Option Nat} (hd : decode cc pc = .ok (.areturn, 1)) (hrt : rt = some (.object nm)) (hc : cells ≤ Z.cells) (hs : slots ≤ Z.slots) (hq : Post r M) : v_V G l y cc nL rt Z (v_Qr G Post) cells slots pc lv [va_rf r] M := by
  intro p e s m args below meth c H locs ls C P L
  rw [List.map_cons, v_tv_rf]
  refine W.widen hc hs (W.aret C.1 C.2.1 (C.2.2.2.2.2.1.trans hrt) (Or.inl ⟨_, rfl⟩) (by cases r <;> simp [va_rf]) (fun t ht hW => ⟨⟨r.map (v_ad G), (r, M), rfl, ⟨rfl, hq⟩, v_wx P ht⟩, P.2.2.2.F ht⟩) P.2.2.2.2.2 hd C.2.2.2.2.2.2.1)
end VROWS2
