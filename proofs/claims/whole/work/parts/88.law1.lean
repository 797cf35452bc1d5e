/-! THE LAW: its judgement v_S, one frame, one start; the rows, out of v_V's -/
def v_S (G : v_G) (l : Launch) (nL : Nat) (Z : Room) (Q : State → Prop) (p : Program) (e : Env) (s : State) (m : MethodId) (args : Array Value) (below : List Frame) (meth : Method) (c : Code) (cells slots pc : Nat) (lv : List (Option Value)) (st : List Value) (M : v_MM) : Prop :=
  ∀ (H : Heap) (locs : List Loc) (ls : Array Slot), v_Rp G M s H locs → v_L G nL ls lv → W p l e Z s m args below meth c H locs cells slots Q (F0 m pc ls (st.map (v_tv G)))
section LROWS
variable {G : v_G} {l : Launch} {y : MethodName} {cc : ByteArray} {nL : Nat} {rt : Option FieldType} {Z : Room} {Q : State → Prop} {p : Program} {e : Env} {s : State} {m : MethodId} {args : Array Value} {below : List Frame} {meth : Method} {c : Code} {cells slots pc : Nat} {lv : List (Option Value)} {st : List Value} {M : v_MM}
variable {K : Nat × v_TY} {I : Nat → Nat → Int32} {J : Nat → Nat → Int64} {R : Nat → Nat → Option Nat} {h n : Nat}
theorem ll_iconst (C : v_C G l y cc nL rt p s m args meth c) {n : Int} {v : Int32} (hd : decode cc pc = .ok (.iconst n, 1)) (hv : Int32.ofInt n = v) (k : v_S G l nL Z Q p e s m args below meth c cells slots (pc + 1) lv (.int v :: st) M) : v_S G l nL Z Q p e s m args below meth c cells slots pc lv (st) M :=
  fun H locs ls P L => lv_iconst C.1 C.2.1 hd hv (k H locs ls P L)
theorem ll_bipush (C : v_C G l y cc nL rt p s m args meth c) {n : Int} {v : Int32} (hd : decode cc pc = .ok (.bipush n, 2)) (hv : (Int8.ofInt n).toInt32 = v) (k : v_S G l nL Z Q p e s m args below meth c cells slots (pc + 2) lv (.int v :: st) M) : v_S G l nL Z Q p e s m args below meth c cells slots pc lv (st) M :=
  fun H locs ls P L => lv_bipush C.1 C.2.1 hd hv (k H locs ls P L)
theorem ll_iadd (C : v_C G l y cc nL rt p s m args meth c) {x z : Int32} (hd : decode cc pc = .ok (.iadd, 1))  (k : v_S G l nL Z Q p e s m args below meth c cells slots (pc + 1) lv (.int (x + z) :: st) M) : v_S G l nL Z Q p e s m args below meth c cells slots pc lv (.int z :: .int x :: st) M :=
  fun H locs ls P L => lv_iadd C.1 C.2.1 hd (k H locs ls P L)
theorem ll_isub (C : v_C G l y cc nL rt p s m args meth c) {x z : Int32} (hd : decode cc pc = .ok (.isub, 1))  (k : v_S G l nL Z Q p e s m args below meth c cells slots (pc + 1) lv (.int (x - z) :: st) M) : v_S G l nL Z Q p e s m args below meth c cells slots pc lv (.int z :: .int x :: st) M :=
  fun H locs ls P L => lv_isub C.1 C.2.1 hd (k H locs ls P L)
theorem ll_iand (C : v_C G l y cc nL rt p s m args meth c) {x z : Int32} (hd : decode cc pc = .ok (.iand, 1))  (k : v_S G l nL Z Q p e s m args below meth c cells slots (pc + 1) lv (.int (x &&& z) :: st) M) : v_S G l nL Z Q p e s m args below meth c cells slots pc lv (.int z :: .int x :: st) M :=
  fun H locs ls P L => lv_iand C.1 C.2.1 hd (k H locs ls P L)
theorem ll_lor (C : v_C G l y cc nL rt p s m args meth c) {x z : Int64} (hd : decode cc pc = .ok (.lor, 1))  (k : v_S G l nL Z Q p e s m args below meth c cells slots (pc + 1) lv (.long (x ||| z) :: st) M) : v_S G l nL Z Q p e s m args below meth c cells slots pc lv (.long z :: .long x :: st) M :=
  fun H locs ls P L => lv_lor C.1 C.2.1 hd (k H locs ls P L)
theorem ll_land (C : v_C G l y cc nL rt p s m args meth c) {x z : Int64} (hd : decode cc pc = .ok (.land, 1))  (k : v_S G l nL Z Q p e s m args below meth c cells slots (pc + 1) lv (.long (x &&& z) :: st) M) : v_S G l nL Z Q p e s m args below meth c cells slots pc lv (.long z :: .long x :: st) M :=
  fun H locs ls P L => lv_land C.1 C.2.1 hd (k H locs ls P L)
theorem ll_lshl (C : v_C G l y cc nL rt p s m args meth c) {x v : Int64} {z : Int32} (hd : decode cc pc = .ok (.lshl, 1)) (hv : x <<< (z.toInt64 &&& 63) = v) (k : v_S G l nL Z Q p e s m args below meth c cells slots (pc + 1) lv (.long v :: st) M) : v_S G l nL Z Q p e s m args below meth c cells slots pc lv (.int z :: .long x :: st) M :=
  fun H locs ls P L => lv_lshl C.1 C.2.1 hd hv (k H locs ls P L)
theorem ll_lcmp (C : v_C G l y cc nL rt p s m args meth c) {x z : Int64} (hd : decode cc pc = .ok (.lcmp, 1))  (k : v_S G l nL Z Q p e s m args below meth c cells slots (pc + 1) lv (.int (lg_cmp x z) :: st) M) : v_S G l nL Z Q p e s m args below meth c cells slots pc lv (.long z :: .long x :: st) M :=
  fun H locs ls P L => W.lcmp C.1 C.2.1 hd (k H locs ls P L)
theorem ll_i2l (C : v_C G l y cc nL rt p s m args meth c) {x : Int32} (hd : decode cc pc = .ok (.i2l, 1))  (k : v_S G l nL Z Q p e s m args below meth c cells slots (pc + 1) lv (.long x.toInt64 :: st) M) : v_S G l nL Z Q p e s m args below meth c cells slots pc lv (.int x :: st) M :=
  fun H locs ls P L => lv_i2l C.1 C.2.1 hd rfl (k H locs ls P L)
theorem ll_dup (C : v_C G l y cc nL rt p s m args meth c) {a : Value} (hd : decode cc pc = .ok (.dup, 1)) (ha : a.category = 1) (k : v_S G l nL Z Q p e s m args below meth c cells slots (pc + 1) lv (a :: a :: st) M) : v_S G l nL Z Q p e s m args below meth c cells slots pc lv (a :: st) M :=
  fun H locs ls P L => lv_dup C.1 C.2.1 hd ((v_tv_cat G a).trans ha) (k H locs ls P L)
theorem ll_iload_n (C : v_C G l y cc nL rt p s m args meth c) {n : Fin 4} {i : Nat} {x : Int32} (hd : decode cc pc = .ok (.iload_n n, 1)) (hi : (n : Nat) = i) (hl : lv[i]? = some (some (.int x))) (k : v_S G l nL Z Q p e s m args below meth c cells slots (pc + 1) lv (.int x :: st) M) : v_S G l nL Z Q p e s m args below meth c cells slots pc lv st M :=
  fun H locs ls P L => lv_iload_n C.1 C.2.1 hd hi (v_L_at L hl) (k H locs ls P L)
theorem ll_aload_n (C : v_C G l y cc nL rt p s m args meth c) {n : Fin 4} {i : Nat} {x : Nat} (hd : decode cc pc = .ok (.aload_n n, 1)) (hi : (n : Nat) = i) (hl : lv[i]? = some (some (.ref x))) (k : v_S G l nL Z Q p e s m args below meth c cells slots (pc + 1) lv (.ref x :: st) M) : v_S G l nL Z Q p e s m args below meth c cells slots pc lv st M :=
  fun H locs ls P L => lv_aload_n C.1 C.2.1 hd hi (v_L_at L hl) (k H locs ls P L)
theorem ll_iinc (C : v_C G l y cc nL rt p s m args meth c) {i : Nat} {n : Int} {x v : Int32} (hd : decode cc pc = .ok (.iinc i n, 3)) (hl : lv[i]? = some (some (.int x))) (hv : Int32.ofInt n = v) (hn : i < nL) (hc : v_c1 lv i = true) (k : v_S G l nL Z Q p e s m args below meth c cells slots (pc + 3) (lv.set i (some (.int (x + v)))) st M) : v_S G l nL Z Q p e s m args below meth c cells slots pc lv st M := by
  intro H locs ls P L
  obtain ⟨j, hj⟩ := v_L_ix L hl
  exact lv_iinc C.1 C.2.1 hd L.1 hj (by rw [hv]) hn rfl (fun ls2 h2 => k H locs ls2 P (v_L_set1 (v := .int (x + v)) L hc h2))
theorem ll_istore_n (C : v_C G l y cc nL rt p s m args meth c) {n : Fin 4} {i : Nat} {x : Int32} (hd : decode cc pc = .ok (.istore_n n, 1)) (hi : (n : Nat) = i) (hn : i < nL) (hc : v_c1 lv i = true) (k : v_S G l nL Z Q p e s m args below meth c cells slots (pc + 1) (lv.set i (some (.int x))) st M) : v_S G l nL Z Q p e s m args below meth c cells slots pc lv (.int x :: st) M :=
  fun H locs ls P L => lv_istore_n C.1 C.2.1 hd hi L.1 hn rfl (fun ls2 h2 => k H locs ls2 P (v_L_set1 (v := .int x) L hc h2))
theorem ll_astore_n (C : v_C G l y cc nL rt p s m args meth c) {n : Fin 4} {i : Nat} {x : Nat} (hd : decode cc pc = .ok (.astore_n n, 1)) (hi : (n : Nat) = i) (hn : i < nL) (hc : v_c1 lv i = true) (k : v_S G l nL Z Q p e s m args below meth c cells slots (pc + 1) (lv.set i (some (.ref x))) st M) : v_S G l nL Z Q p e s m args below meth c cells slots pc lv (.ref x :: st) M :=
  fun H locs ls P L => lv_astore_n C.1 C.2.1 hd hi L.1 hn rfl (fun ls2 h2 => k H locs ls2 P (v_L_set1 (v := .ref x) L hc h2))
theorem ll_if_eq (C : v_C G l y cc nL rt p s m args meth c) {x : Int32} {off : Int} {tgt : Nat} (hd : decode cc pc = .ok (.ifCond .eq off, 3)) (ht : (pc : Int) + off = (tgt : Int)) (kt : x = 0 → v_S G l nL Z Q p e s m args below meth c cells slots tgt lv st M) (kf : ¬ (x = 0) → v_S G l nL Z Q p e s m args below meth c cells slots (pc + 3) lv st M) : v_S G l nL Z Q p e s m args below meth c cells slots pc lv (.int x :: st) M :=
  fun H locs ls P L => lv_if_eq C.1 C.2.1 hd ht (fun h => kt h H locs ls P L) (fun h => kf h H locs ls P L)
theorem ll_icmp_gt (C : v_C G l y cc nL rt p s m args meth c) {x z : Int32} {off : Int} {tgt : Nat} (hd : decode cc pc = .ok (.if_icmp .gt off, 3)) (ht : (pc : Int) + off = (tgt : Int)) (kt : z < x → v_S G l nL Z Q p e s m args below meth c cells slots tgt lv st M) (kf : ¬ (z < x) → v_S G l nL Z Q p e s m args below meth c cells slots (pc + 3) lv st M) : v_S G l nL Z Q p e s m args below meth c cells slots pc lv (.int z :: .int x :: st) M :=
  fun H locs ls P L => lv_icmp_gt C.1 C.2.1 hd ht (fun h => kt h H locs ls P L) (fun h => kf h H locs ls P L)
theorem ll_icmp_eq (C : v_C G l y cc nL rt p s m args meth c) {x z : Int32} {off : Int} {tgt : Nat} (hd : decode cc pc = .ok (.if_icmp .eq off, 3)) (ht : (pc : Int) + off = (tgt : Int)) (kt : x = z → v_S G l nL Z Q p e s m args below meth c cells slots tgt lv st M) (kf : ¬ (x = z) → v_S G l nL Z Q p e s m args below meth c cells slots (pc + 3) lv st M) : v_S G l nL Z Q p e s m args below meth c cells slots pc lv (.int z :: .int x :: st) M :=
  fun H locs ls P L => lv_icmp_eq C.1 C.2.1 hd ht (fun h => kt h H locs ls P L) (fun h => kf h H locs ls P L)
theorem ll_goto (C : v_C G l y cc nL rt p s m args meth c) {off : Int} {tgt : Nat} (hd : decode cc pc = .ok (.goto off, 3)) (ht : (pc : Int) + off = (tgt : Int)) (k : v_S G l nL Z Q p e s m args below meth c cells slots tgt lv st M) : v_S G l nL Z Q p e s m args below meth c cells slots pc lv st M :=
  fun H locs ls P L => lv_goto C.1 C.2.1 hd ht (k H locs ls P L)
theorem ll_tableIn (C : v_C G l y cc nL rt p s m args meth c) {dflt lo hi : Int} {offs : Array Int} {len : Nat} {x : Int32} {off : Int} {tgt : Nat} (hd : decode cc pc = .ok (.tableswitch dflt lo hi offs, len)) (h1 : ¬ x.toInt < lo) (h2 : ¬ hi < x.toInt) (ho : offs[(x.toInt - lo).toNat]? = some off) (ht : (pc : Int) + off = (tgt : Int)) (k : v_S G l nL Z Q p e s m args below meth c cells slots tgt lv st M) : v_S G l nL Z Q p e s m args below meth c cells slots pc lv (.int x :: st) M :=
  fun H locs ls P L => lv_tableIn C.1 C.2.1 hd h1 h2 ho ht (k H locs ls P L)
theorem ll_tableOut (C : v_C G l y cc nL rt p s m args meth c) {dflt lo hi : Int} {offs : Array Int} {len : Nat} {x : Int32} {tgt : Nat} (hd : decode cc pc = .ok (.tableswitch dflt lo hi offs, len)) (h : x.toInt < lo ∨ hi < x.toInt) (ht : (pc : Int) + dflt = (tgt : Int)) (k : v_S G l nL Z Q p e s m args below meth c cells slots tgt lv st M) : v_S G l nL Z Q p e s m args below meth c cells slots pc lv (.int x :: st) M :=
  fun H locs ls P L => lv_tableOut C.1 C.2.1 hd h ht (k H locs ls P L)
theorem ll_ldc2 (C : v_C G l y cc nL rt p s m args meth c) {idx : Nat} {v : Int64} (hw : Cond.constantLong y.cls idx v ∈ wsG) (hd : decode cc pc = .ok (.ldc2_w idx, 3)) (kk : v_S G l nL Z Q p e s m args below meth c cells slots (pc + 3) lv (.long v :: st) M) : v_S G l nL Z Q p e s m args below meth c cells slots pc lv st M :=
  fun H locs ls P L => W.ldc2 C.1 C.2.1 C.2.2.2.1 (C.2.2.2.2.1 _ hw) rfl hd (kk H locs ls P L)
theorem ll_new (C : v_C G l y cc nL rt p s m args meth c) {idx ci N : Nat} (hg : v_nw y.cls idx ci N) (hd : decode cc pc = .ok (.new idx, 3)) (hn : K.1 + 1 ≤ 1000000) (hcells : cells + 1 ≤ Z.cells) (hslots : slots + N ≤ Z.slots) (kk : v_S G l nL Z Q p e s m args below meth c (cells + 1) (slots + N) (pc + 3) lv (.ref K.1 :: st) (v_k K ci 0, v_z I K.1 0, v_z J K.1 0, v_z R K.1 none)) : v_S G l nL Z Q p e s m args below meth c cells slots pc lv st (K, I, J, R) := by
  intro H locs ls P L
  have C := C
  obtain ⟨C0, T, ty0, g1, g2, g3, g4, g5, g6, g7, g8, g9⟩ := hg
  have W0 := C.2.2.2.2.1
  have hKn := C.2.2.2.2.2.2.2.2.1.1 ci _ g1
  refine W.newcK C.1 C.2.1 C.2.2.2.1 (W0 _ g4) (W0 _ g5) (W0 _ g6) rfl hd hcells hslots hKn.2.1 rfl fun H1 kC hkC e1 z1 o1 => ?_
  have hfs : ∀ j, j < N → defaultValue (ty0 j) = vp_V (v_fs G (v_z I K.1 0) (v_z R K.1 none) K.1 ci) j := by
    intro j hj
    rw [g7 j hj]
    have hl : j < (v_fl ci).length := by omega
    have hb : (v_fl ci)[j]? = some (v_fl ci)[j] := List.getElem?_eq_getElem hl
    unfold vp_V
    rw [List.getD_eq_getElem?_getD, hb, List.getD_eq_getElem?_getD, v_fs_at hb]
    cases (v_fl ci)[j] <;> simp [v_z, va_rf]
  obtain ⟨P1, had⟩ := v_push (k := ci) (len := 0) P hn (v_cell_obj v_is_new g9) ⟨_, g1, (u_born ty0 W0 g2 hKn hkC e1 g3).to hfs⟩ z1 o1
  have k2 := kk H1 locs ls P1 L
  rw [List.map_cons, v_tv_ref, ← had] at k2
  exact k2
theorem ll_ci (C : v_C G l y cc nL rt p s m args meth c) {st rest : List Value} {Z' : Room} {Post : Int32 → v_MM → Prop} (hr : v_Rn G l y cc nL rt Z cells slots pc st rest Z' (v_Qi G Post) M) (kk : ∀ (x : Int32) (M' : v_MM), Post x M' → v_S G l nL Z Q p e s m args below meth c (cells + Z'.cells) (slots + Z'.slots) (pc + 3) lv (.int x :: rest) M') : v_S G l nL Z Q p e s m args below meth c cells slots pc lv st M := by
  intro H locs ls P L
  obtain ⟨a', hr'⟩ := hr p e s m args below meth c H locs ls C P L.1.1
  exact va_calli hr' P.2.2.2 (fun q _ h => h) (fun q h => h) (fun x M' t H1 locs1 ht hvm hw hB hz hk hS => kk x M' hw H1 locs1 ls ⟨by rw [← ht]; exact hB.1, by rw [← ht]; exact hB.2.1, hB.2.2, hS⟩ L)
theorem ll_cl (C : v_C G l y cc nL rt p s m args meth c) {st rest : List Value} {Z' : Room} {Post : Int64 → v_MM → Prop} (hr : v_Rn G l y cc nL rt Z cells slots pc st rest Z' (v_Ql G Post) M) (kk : ∀ (x : Int64) (M' : v_MM), Post x M' → v_S G l nL Z Q p e s m args below meth c (cells + Z'.cells) (slots + Z'.slots) (pc + 3) lv (.long x :: rest) M') : v_S G l nL Z Q p e s m args below meth c cells slots pc lv st M := by
  intro H locs ls P L
  obtain ⟨a', hr'⟩ := hr p e s m args below meth c H locs ls C P L.1.1
  exact va_calll hr' P.2.2.2 (fun q _ h => h) (fun q h => h) (fun x M' t H1 locs1 ht hvm hw hB hz hk hS => kk x M' hw H1 locs1 ls ⟨by rw [← ht]; exact hB.1, by rw [← ht]; exact hB.2.1, hB.2.2, hS⟩ L)
theorem ll_cv (C : v_C G l y cc nL rt p s m args meth c) {st rest : List Value} {Z' : Room} {Post : v_MM → Prop} (hr : v_Rn G l y cc nL rt Z cells slots pc st rest Z' (v_Qv G Post) M) (kk : ∀ (M' : v_MM), Post M' → v_S G l nL Z Q p e s m args below meth c (cells + Z'.cells) (slots + Z'.slots) (pc + 3) lv rest M') : v_S G l nL Z Q p e s m args below meth c cells slots pc lv st M := by
  intro H locs ls P L
  obtain ⟨a', hr'⟩ := hr p e s m args below meth c H locs ls C P L.1.1
  exact va_callv hr' P.2.2.2 (fun q _ h => h) (fun q h => h) (fun M' t H1 locs1 ht hvm hw hB hz hk hS => kk M' hw H1 locs1 ls ⟨by rw [← ht]; exact hB.1, by rw [← ht]; exact hB.2.1, hB.2.2, hS⟩ L)
/-- more room -/
theorem ll_wide {k n : Nat} (h1 : cells ≤ k) (h2 : slots ≤ n) (kk : v_S G l nL Z Q p e s m args below meth c k n pc lv st M) : v_S G l nL Z Q p e s m args below meth c cells slots pc lv st M := fun H locs ls P L => W.widen h1 h2 (kk H locs ls P L)
/-- the script's cell -/
theorem ll_slen (C : v_C G l y cc nL rt p s m args meth c) {L : Nat} {xs : Nat → Int32} {i : Nat} (hX : va_X (G.2.2.2 i) L xs s s.heap) (hbl : G.2.2.2 i < s.heap.size) (hbA : ¬ v_A G (G.2.2.2 i)) (hd : decode cc pc = .ok (.arraylength, 1)) (kk : v_S G l nL Z Q p e s m args below meth c cells slots (pc + 1) lv (.int (Int32.ofNat L) :: st) M) : v_S G l nL Z Q p e s m args below meth c cells slots pc lv (.ref (1000000 + i) :: st) M := by
  intro H locs ls P L
  rw [List.map_cons, v_tv_ref, v_ad_x]
  exact va_slen C.1 C.2.1 hX hbl hbA P.2.2.2 hd (kk H locs ls P L)
theorem ll_sld (C : v_C G l y cc nL rt p s m args meth c) {L : Nat} {xs : Nat → Int32} {i : Nat} {j : Int32} (hX : va_X (G.2.2.2 i) L xs s s.heap) (hbl : G.2.2.2 i < s.heap.size) (hbA : ¬ v_A G (G.2.2.2 i)) (hin : vp_in j L) (hd : decode cc pc = .ok (.iaload, 1)) (kk : v_S G l nL Z Q p e s m args below meth c cells slots (pc + 1) lv (.int (xs j.toNatClampNeg) :: st) M) : v_S G l nL Z Q p e s m args below meth c cells slots pc lv (.int j :: .ref (1000000 + i) :: st) M := by
  intro H locs ls P L
  rw [List.map_cons, List.map_cons, v_tv_ref, v_ad_x]
  exact va_sld C.1 C.2.1 hX hbl hbA P.2.2.2 hin hd (kk H locs ls P L)
/-- one argument: script[i + k] -/
theorem ll_arg (C : v_C G l y cc nL rt p s m args meth c) {L i k : Nat} {n : Int} {xs : Nat → Int32} (hX : va_X (G.2.2.2 5) L xs s s.heap) (hbl : G.2.2.2 5 < s.heap.size) (hbA : ¬ v_A G (G.2.2.2 5)) (hL : L ≤ 3072) (hk : i + k < L) (hn : Int32.ofInt n = nI k) (l0 : lv[0]? = some (some (.ref (1000000 + 5)))) (l3 : lv[3]? = some (some (.int (nI i))))
    (d0 : decode cc pc = .ok (.aload_n 0, 1)) (d1 : decode cc (pc + 1) = .ok (.iload_n 3, 1)) (d2 : decode cc (pc + 1 + 1) = .ok (.iconst n, 1)) (d3 : decode cc (pc + 1 + 1 + 1) = .ok (.iadd, 1)) (d4 : decode cc (pc + 1 + 1 + 1 + 1) = .ok (.iaload, 1)) (kk : v_S G l nL Z Q p e s m args below meth c cells slots (pc + 5) lv (.int (xs (i + k)) :: st) M) : v_S G l nL Z Q p e s m args below meth c cells slots pc lv st M := by
  refine ll_aload_n C d0 rfl l0 ?_
  refine ll_iload_n C d1 rfl l3 ?_
  refine ll_iconst C d2 hn ?_
  refine ll_iadd C d3 ?_
  have e : nI i + nI k = nI (i + k) := nI_add i k
  rw [e]
  refine ll_sld C hX hbl hbA (vp_in_nI hk (by omega)) d4 ?_
  have e2 : (nI (i + k)).toNatClampNeg = i + k := nI_clamp (by omega)
  rw [e2]
  exact kk
end LROWS
