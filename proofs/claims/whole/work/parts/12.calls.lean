/-! CALLS, NEW CELLS, STATICS, TEXTS -/
theorem v_X_same {G : v_G} {u U : State} (h : v_X G u) (hv : U.vm = u.vm) (hh : U.heap = u.heap) : v_X G U := by
  obtain ⟨h1, h2, ⟨h3, h4⟩, ⟨h5, h6⟩, ⟨h7, h7b⟩, h8, h9⟩ := h
  have ha : u.vm.Alike U.vm := by rw [hv]; exact Vm.Alike.refl u.vm
  unfold v_X
  rw [hh]
  refine ⟨fun w hw => ?_, fun q hq => (h2 q hq).moved ha, ⟨h3.moved ha, h4.moved ha⟩, ⟨h5.moved ha, h6.moved ha⟩, ⟨h7.moved ha, h7b.elim (fun z => Or.inl (z.moved ha)) (fun z => Or.inr (z.moved ha))⟩, h8.moved ha, fun q hq => vk_R.same hv (h9 q hq)⟩
  have hk := (List.mem_filter.mp hw).2
  have h0 := h1 w hw
  cases w with
  | methodLinkNest a i x hh => exact va_Nw.same rfl hv.symm h0
  | fieldLinkNest a i b n d hh => exact va_Nw.same rfl hv.symm h0
  | castable a b => exact va_Nw.same rfl hv.symm h0
  | declares x => exact va_Nw.same rfl hv.symm h0
  | arrayOver t =>
    cases t with
    | object C => exact va_AO.moved ha h0
    | _ => cases hk
  | _ => cases hk
theorem v_blind (G : v_G) (av : List Value) (M : v_MM) : FrameBlind (va_Pc av (v_We G M)) := by
  intro a U g mk q
  obtain ⟨q0, ⟨q1, q2, q3⟩, q4, q5⟩ := q
  exact ⟨q0, ⟨q1, q2, q3⟩, va_K.moved (u := U) (U := U.calling g mk a) (Vm.Alike.refl U.vm) q4, v_X_same q5 rfl rfl⟩
theorem v_goodIn {y : MethodName} {cc : ByteArray} {nL : Nat} {rt : Option FieldType} (h : Cond.code y cc nL rt ∈ wsG) : GoodIn wsG (v_wy y cc nL rt) := fun w hw => by
  rcases List.mem_cons.mp hw with rfl | hw
  · exact ⟨h, v_good h⟩
  · exact ⟨hw, v_good hw⟩
theorem v_goodMore {ws a : List Cond} (ha : ∀ w ∈ a, w ∈ wsG) (hb : GoodIn wsG ws) : GoodIn wsG (a ++ ws) := fun w hw => (List.mem_append.mp hw).elim (fun h => ⟨ha w h, v_good (ha w h)⟩) (hb w)
/-- a receiver -/
def v_rc (G : v_G) (M : v_MM) (h : Nat) (C : String) : Prop := ∀ (s : State) (H : Heap) (locs : List Loc), va_K G.1 vwCl (v_ty G) s → v_X G s → v_Rp G M s H locs → ∃ cell : Cell, H[v_ad G h]? = some cell ∧ cell.vm.isStatics = false ∧ s.vm.findClass C = some cell.cls
theorem v_rcO {G : v_G} {K : Nat × v_TY} {I : Nat → Nat → Int32} {J : Nat → Nat → Int64} {R : Nat → Nat → Option Nat} {h ci n : Nat} {q : vw_C} (hi : v_is K h ci n) (hc : vwCl[ci]? = some q) (hk : ci < 13) : v_rc G (K, I, J, R) h q.1 :=
  fun s H locs hK hX P => va_recv hK P.1 hc (v_at_obj hi hk)
theorem v_rcS {G : v_G} {M : v_MM} {i : Nat} (hi : i < 7) : v_rc G M (1000010 + i) "java/lang/String" := fun s H locs hK hX P => by
  have e : v_ad G (1000010 + i) = G.2.2.2 (10 + i) := by
    unfold v_ad
    rw [if_neg (by omega), show 1000010 + i - 1000000 = 10 + i by omega]
  rw [e]
  exact vk_recv (i := i) (adK := fun i => G.2.2.2 (10 + i)) hX.2.2.2.2.2.1 hi P.2.2.2
/-- the callee's room fits -/
def v_fit (Z Z' : Room) (nL' : Nat) : Prop := Z'.frames + 1 ≤ Z.frames ∧ 8 + (nL' + 11) + Z'.locals ≤ Z.locals
/-- a call that comes to its end, with Qc' -/
def v_Rn (G : v_G) (l : Launch) (y : MethodName) (cc : ByteArray) (nL : Nat) (rt : Option FieldType) (Z : Room) (cells slots pc : Nat) (st rest : List Value) (Z' : Room) (Qc' : Array Value → State → Outcome → State → Prop) (M : v_MM) : Prop :=
  ∀ (p : Program) (e : Env) (s : State) (m : MethodId) (args : Array Value) (below : List Frame) (meth : Method) (c : Code) (H : Heap) (locs : List Loc) (ls : Array Slot),
    v_C G l y cc nL rt p s m args meth c → v_Rp G M s H locs → ls.size = nL →
    ∃ a' : Array Value, va_Run p l e Z s m args below meth c H locs cells slots Z'.cells Z'.slots (F0 m pc ls (st.map (v_tv G))) (rest.map (v_tv G)) (Qc' a') (v_A G)
section VROWS3
variable {G : v_G} {l : Launch} {y : MethodName} {cc : ByteArray} {nL : Nat} {rt : Option FieldType} {Z : Room} {Qc : Array Value → State → Outcome → State → Prop} {cells slots pc : Nat} {lv : List (Option Value)} {st : List Value} {M : v_MM}
variable {K : Nat × v_TY} {I : Nat → Nat → Int32} {J : Nat → Nat → Int64} {R : Nat → Nat → Option Nat} {h n : Nat}
variable {y' : MethodName} {cc' : ByteArray} {nL' : Nat} {rt' : Option FieldType} {Z' : Room} {av rest : List Value} {Qc' : Array Value → State → Outcome → State → Prop}
theorem v_pre {s : State} {H : Heap} {locs : List Loc} (hK : va_K G.1 vwCl (v_ty G) s) (hX : v_X G s) (P : v_Rp G M s H locs) (U : State) (hU : U.heap = H) (hW : s.WarmedH U.vm) : v_We G M U :=
  ⟨⟨by rw [hU]; exact P.1, by rw [hU]; exact P.2.1, P.2.2.1⟩, va_K.moved hW.alike hK, v_X_go hX hW hU P.2.2.2⟩
theorem v_mapapp (a : List Value) (b : List Value) : (a.reverse ++ b).map (v_tv G) = (a.map (v_tv G)).reverse ++ b.map (v_tv G) := by
  rw [List.map_append, List.map_reverse]
theorem v_catsum : ((rest.map (v_tv G)).map fun v => v.category) = rest.map fun v => v.category := by
  rw [List.map_map]
  exact List.map_congr_left (fun v _ => v_tv_cat G v)
theorem v_rV {C : String} {idx : Nat} (hM : v_M G l y' cc' nL' rt' Z' (.ref h :: av) M Qc') (hst : st = av.reverse ++ .ref h :: rest) (hw : v_cV y.cls idx C y' cc' nL' rt' av.length) (hr : v_rc G M h C) (hz : v_fit Z Z' nL') (hc : cells + Z'.cells ≤ Z.cells ∧ slots + Z'.slots ≤ Z.slots) (hd : decode cc pc = .ok (.invokevirtual idx, 3)) (hcat : (rest.map fun v => v.category).sum ≤ 8) : v_Rn G l y cc nL rt Z cells slots pc st rest Z' Qc' M := by
  subst hst
  intro p e s m args below meth c H locs ls C P hls
  obtain ⟨w1, w2, w3, w4, w5, w6, w7⟩ := hw
  refine ⟨_, va_runV (C := _) (b := v_ad G h) (As := av.map (v_tv G)) (n := av.length) (Ts := wsG) ⟨C.1, C.2.1, C.2.2.1, C.2.2.2.1, C.2.2.2.2.1⟩ hM (cwV av.length C.2.2.2.2.1 (v_goodMore (fun w hw => ?_) (v_goodIn w5)) rfl rfl rfl ⟨w6, w7.1, w7.2.1, w7.2.2⟩ hz) ⟨v_blind _ _ _, hr s H locs C.2.2.2.2.2.2.2.2.1 C.2.2.2.2.2.2.2.2.2.1 P, fun U hU hW => ⟨rfl, v_pre C.2.2.2.2.2.2.2.2.1 C.2.2.2.2.2.2.2.2.2.1 P U hU hW⟩⟩ rfl (by simp) hls (v_mapapp _ _) (lv_room (by rw [v_catsum]; exact hcat)) hd hc⟩
  simp only [List.mem_cons, List.not_mem_nil, or_false] at hw
  rcases hw with rfl | rfl | rfl | rfl <;> assumption
theorem v_rU {C owner : String} {x : MethodName} {idx : Nat} (hM : v_M G l y' cc' nL' rt' Z' (.ref h :: av) M Qc') (hst : st = av.reverse ++ .ref h :: rest) (hw : v_cU y.cls idx C owner x y' cc' nL' rt' av.length) (hr : v_rc G M h C) (hz : v_fit Z Z' nL') (hc : cells + Z'.cells ≤ Z.cells ∧ slots + Z'.slots ≤ Z.slots) (hd : decode cc pc = .ok (.invokevirtual idx, 3)) (hcat : (rest.map fun v => v.category).sum ≤ 8) : v_Rn G l y cc nL rt Z cells slots pc st rest Z' Qc' M := by
  subst hst
  intro p e s m args below meth c H locs ls C P hls
  obtain ⟨w1, w2, w3, w4, w5, w6, w7, w8⟩ := hw
  have T := C.2.2.2.2.1
  have hdecl : va_Decl s ⟨owner, x.name, x.desc⟩ := by
    rcases w7 with w7 | ⟨b, k, r, g1, g2⟩
    · exact va_Decl.abs (C.2.2.2.2.2.2.2.2.2.1.1 _ w7)
    · exact va_Decl.of (T _ g1) (T _ g2)
  refine ⟨_, va_runU (owner := owner) (x := x) (b := v_ad G h) (As := av.map (v_tv G)) (n := av.length) (Ts := wsG) ⟨C.1, C.2.1, C.2.2.1, C.2.2.2.1, C.2.2.2.2.1⟩ hM ⟨⟨rfl, rfl, hz.1, hz.2, pay_in T (v_goodIn w6), List.mem_cons_self⟩, T _ w6, T _ w5, ⟨w8.1, w8.2.1⟩, fun sig hs => ?_, T _ w1, T _ w2, hdecl, T _ w3, T _ w4⟩ ⟨v_blind _ _ _, hr s H locs C.2.2.2.2.2.2.2.2.1 C.2.2.2.2.2.2.2.2.2.1 P, fun U hU hW => ⟨rfl, v_pre C.2.2.2.2.2.2.2.2.1 C.2.2.2.2.2.2.2.2.2.1 P U hU hW⟩⟩ rfl (by simp) hls (v_mapapp _ _) (lv_room (by rw [v_catsum]; exact hcat)) hd hc⟩
  have h2 := w8.2.2
  rw [hs] at h2
  exact (Option.some.inj h2).symm
theorem v_rS {idx : Nat} (hM : v_M G l y' cc' nL' rt' Z' av M Qc') (hst : st = av.reverse ++ rest) (hw : v_cS y.cls idx y' cc' nL' rt' av.length) (hz : v_fit Z Z' nL') (hc : cells + Z'.cells ≤ Z.cells ∧ slots + Z'.slots ≤ Z.slots) (hd : decode cc pc = .ok (.invokestatic idx, 3)) (hcat : (rest.map fun v => v.category).sum ≤ 8) : v_Rn G l y cc nL rt Z cells slots pc st rest Z' Qc' M := by
  subst hst
  intro p e s m args below meth c H locs ls C P hls
  obtain ⟨w1, w2, w3, w4, w5⟩ := hw
  refine ⟨_, va_runS (As := av.map (v_tv G)) (n := av.length) (Ts := wsG) ⟨C.1, C.2.1, C.2.2.1, C.2.2.2.1, C.2.2.2.2.1⟩ hM (va_cwS av.length C.2.2.2.2.1 (v_goodMore (fun w hw => ?_) (v_goodIn w4)) rfl rfl rfl w5 hz) ⟨v_blind _ _ _, fun U hU hW => ⟨rfl, v_pre C.2.2.2.2.2.2.2.2.1 C.2.2.2.2.2.2.2.2.2.1 P U hU hW⟩⟩ rfl (by simp) hls (v_mapapp _ _) (lv_room (by rw [v_catsum]; exact hcat)) hd hc⟩
  simp only [List.mem_cons, List.not_mem_nil, or_false] at hw
  rcases hw with rfl | rfl | rfl <;> assumption
theorem v_rI {idx : Nat} (hM : v_M G l y' cc' nL' none Z' (.ref h :: av) M Qc') (hst : st = av.reverse ++ .ref h :: rest) (hw : v_cI y.cls idx y' cc' nL' av.length) (hz : v_fit Z Z' nL') (hc : cells + Z'.cells ≤ Z.cells ∧ slots + Z'.slots ≤ Z.slots) (hd : decode cc pc = .ok (.invokespecial idx, 3)) (hcat : (rest.map fun v => v.category).sum ≤ 8) : v_Rn G l y cc nL rt Z cells slots pc st rest Z' Qc' M := by
  subst hst
  intro p e s m args below meth c H locs ls C P hls
  obtain ⟨w1, w2, w3, w4, w5, w6⟩ := hw
  have T := C.2.2.2.2.1
  exact ⟨_, va_runI (b := v_ad G h) (As := av.map (v_tv G)) (n := av.length) (Ts := wsG) ⟨C.1, C.2.1, C.2.2.1, C.2.2.2.1, C.2.2.2.2.1⟩ hM ⟨callB_of av.length T (v_goodIn w4) rfl rfl rfl (T _ w3) (T _ w1) w6 hz, w5, T _ w2⟩ ⟨v_blind _ _ _, fun U hU hW => ⟨rfl, v_pre C.2.2.2.2.2.2.2.2.1 C.2.2.2.2.2.2.2.2.2.1 P U hU hW⟩⟩ rfl (by simp) hls (v_mapapp _ _) (lv_room (by rw [v_catsum]; exact hcat)) hd hc⟩
theorem v_rVN {C host : String} {idx : Nat} (hM : v_M G l y' cc' nL' rt' Z' (.ref h :: av) M Qc') (hst : st = av.reverse ++ .ref h :: rest) (hw : v_cVN y.cls idx C host y' cc' nL' rt' av.length) (hr : v_rc G M h C) (hz : v_fit Z Z' nL') (hc : cells + Z'.cells ≤ Z.cells ∧ slots + Z'.slots ≤ Z.slots) (hd : decode cc pc = .ok (.invokevirtual idx, 3)) (hcat : (rest.map fun v => v.category).sum ≤ 8) : v_Rn G l y cc nL rt Z cells slots pc st rest Z' Qc' M := by
  subst hst
  intro p e s m args below meth c H locs ls C P hls
  obtain ⟨w1, w2, w3, w4, w5, w6⟩ := hw
  have T := C.2.2.2.2.1
  exact ⟨_, va_runVN (b := v_ad G h) (As := av.map (v_tv G)) (n := av.length) (Ts := wsG) ⟨C.1, C.2.1, C.2.2.1, C.2.2.2.1, C.2.2.2.2.1⟩ hM ⟨va_cnB av.length T (v_goodIn w5) rfl rfl rfl (C.2.2.2.2.2.2.2.2.2.1.1 _ w1) (T _ w4) w6 hz, T _ w2, T _ w3⟩ ⟨v_blind _ _ _, hr s H locs C.2.2.2.2.2.2.2.2.1 C.2.2.2.2.2.2.2.2.2.1 P, fun U hU hW => ⟨rfl, v_pre C.2.2.2.2.2.2.2.2.1 C.2.2.2.2.2.2.2.2.2.1 P U hU hW⟩⟩ rfl (by simp) hls (v_mapapp _ _) (lv_room (by rw [v_catsum]; exact hcat)) hd hc⟩
theorem v_rSN {host : String} {idx : Nat} (hM : v_M G l y' cc' nL' rt' Z' av M Qc') (hst : st = av.reverse ++ rest) (hw : v_cSN y.cls idx host y' cc' nL' rt' av.length) (hz : v_fit Z Z' nL') (hc : cells + Z'.cells ≤ Z.cells ∧ slots + Z'.slots ≤ Z.slots) (hd : decode cc pc = .ok (.invokestatic idx, 3)) (hcat : (rest.map fun v => v.category).sum ≤ 8) : v_Rn G l y cc nL rt Z cells slots pc st rest Z' Qc' M := by
  subst hst
  intro p e s m args below meth c H locs ls C P hls
  obtain ⟨w1, w2, w3, w4, w5⟩ := hw
  have T := C.2.2.2.2.1
  exact ⟨_, va_runSN (As := av.map (v_tv G)) (n := av.length) (Ts := wsG) ⟨C.1, C.2.1, C.2.2.1, C.2.2.2.1, C.2.2.2.2.1⟩ hM ⟨va_cnB av.length T (v_goodIn w4) rfl rfl rfl (C.2.2.2.2.2.2.2.2.2.1.1 _ w1) (T _ w3) w5 hz, T _ w2, trivial⟩ ⟨v_blind _ _ _, fun U hU hW => ⟨rfl, v_pre C.2.2.2.2.2.2.2.2.1 C.2.2.2.2.2.2.2.2.2.1 P U hU hW⟩⟩ rfl (by simp) hls (v_mapapp _ _) (lv_room (by rw [v_catsum]; exact hcat)) hd hc⟩
theorem v_rIN {host : String} {idx : Nat} (hM : v_M G l y' cc' nL' none Z' (.ref h :: av) M Qc') (hst : st = av.reverse ++ .ref h :: rest) (hw : v_cIN y.cls idx host y' cc' nL' av.length) (hz : v_fit Z Z' nL') (hc : cells + Z'.cells ≤ Z.cells ∧ slots + Z'.slots ≤ Z.slots) (hd : decode cc pc = .ok (.invokespecial idx, 3)) (hcat : (rest.map fun v => v.category).sum ≤ 8) : v_Rn G l y cc nL rt Z cells slots pc st rest Z' Qc' M := by
  subst hst
  intro p e s m args below meth c H locs ls C P hls
  obtain ⟨w1, w2, w3, w4, w5, w6⟩ := hw
  have T := C.2.2.2.2.1
  exact ⟨_, va_runIN (b := v_ad G h) (As := av.map (v_tv G)) (n := av.length) (Ts := wsG) ⟨C.1, C.2.1, C.2.2.1, C.2.2.2.1, C.2.2.2.2.1⟩ hM ⟨va_cnB av.length T (v_goodIn w4) rfl rfl rfl (C.2.2.2.2.2.2.2.2.2.1.1 _ w1) (T _ w3) w6 hz, w5, T _ w2⟩ ⟨v_blind _ _ _, fun U hU hW => ⟨rfl, v_pre C.2.2.2.2.2.2.2.2.1 C.2.2.2.2.2.2.2.2.2.1 P U hU hW⟩⟩ rfl (by simp) hls (v_mapapp _ _) (lv_room (by rw [v_catsum]; exact hcat)) hd hc⟩
/-- super.method(..) -/
theorem v_rP {ci : Nat} {q : vw_C} {idx : Nat} (hM : v_M G l y' cc' nL' rt' Z' (.ref h :: av) (K, I, J, R) Qc') (hst : st = av.reverse ++ .ref h :: rest) (hw : v_cP y.cls idx y' cc' nL' rt' av.length) (hi : v_is K h ci n) (hq : vwCl[ci]? = some q) (hk : ci < 13) (hz : v_fit Z Z' nL') (hc : cells + Z'.cells ≤ Z.cells ∧ slots + Z'.slots ≤ Z.slots) (hd : decode cc pc = .ok (.invokespecial idx, 3)) (hcat : (rest.map fun v => v.category).sum ≤ 8) : v_Rn G l y cc nL rt Z cells slots pc st rest Z' Qc' (K, I, J, R) := by
  subst hst
  intro p e s m args below meth c H locs ls C P hls
  obtain ⟨w1, w2, w3, w4, w5, w6, w7, w8⟩ := hw
  have T := C.2.2.2.2.1
  exact ⟨_, va_runSU (C := q.1) (C.2.2.2.2.2.2.2.2.1.1 ci q hq).2 (b := v_ad G h) (As := av.map (v_tv G)) (n := av.length) (Ts := wsG) ⟨C.1, C.2.1, C.2.2.1, C.2.2.2.1, C.2.2.2.2.1⟩ hM (va_cwSU av.length T (v_goodMore (fun w hw => by
    simp only [List.mem_cons, List.not_mem_nil, or_false] at hw
    rcases hw with rfl | rfl | rfl | rfl | rfl <;> assumption) (v_goodIn w6)) rfl rfl rfl ⟨w7, w8⟩ hz) ⟨v_blind _ _ _, v_rcO hi hq hk s H locs C.2.2.2.2.2.2.2.2.1 C.2.2.2.2.2.2.2.2.2.1 P, fun U hU hW => ⟨rfl, v_pre C.2.2.2.2.2.2.2.2.1 C.2.2.2.2.2.2.2.2.2.1 P U hU hW⟩⟩ rfl (by simp) hls (v_mapapp _ _) (lv_room (by rw [v_catsum]; exact hcat)) hd hc⟩
/-- behind the call -/
theorem v_ci {Post : Int32 → v_MM → Prop} (hr : v_Rn G l y cc nL rt Z cells slots pc st rest Z' (v_Qi G Post) M) (kk : ∀ (x : Int32) (M' : v_MM), Post x M' → v_V G l y cc nL rt Z Qc (cells + Z'.cells) (slots + Z'.slots) (pc + 3) lv (.int x :: rest) M') : v_V G l y cc nL rt Z Qc cells slots pc lv st M := by
  intro p e s m args below meth c H locs ls C P L
  obtain ⟨a', hr'⟩ := hr p e s m args below meth c H locs ls C P L.1.1
  exact va_calli hr' P.2.2.2 (fun q _ h => h) (fun q h => h) (fun x M' t H1 locs1 ht hvm hw hB hz hk hS => kk x M' hw p e s m args below meth c H1 locs1 ls C ⟨by rw [← ht]; exact hB.1, by rw [← ht]; exact hB.2.1, hB.2.2, hS⟩ L)
theorem v_cl {Post : Int64 → v_MM → Prop} (hr : v_Rn G l y cc nL rt Z cells slots pc st rest Z' (v_Ql G Post) M) (kk : ∀ (x : Int64) (M' : v_MM), Post x M' → v_V G l y cc nL rt Z Qc (cells + Z'.cells) (slots + Z'.slots) (pc + 3) lv (.long x :: rest) M') : v_V G l y cc nL rt Z Qc cells slots pc lv st M := by
  intro p e s m args below meth c H locs ls C P L
  obtain ⟨a', hr'⟩ := hr p e s m args below meth c H locs ls C P L.1.1
  exact va_calll hr' P.2.2.2 (fun q _ h => h) (fun q h => h) (fun x M' t H1 locs1 ht hvm hw hB hz hk hS => kk x M' hw p e s m args below meth c H1 locs1 ls C ⟨by rw [← ht]; exact hB.1, by rw [← ht]; exact hB.2.1, hB.2.2, hS⟩ L)
theorem v_cv {Post : v_MM → Prop} (hr : v_Rn G l y cc nL rt Z cells slots pc st rest Z' (v_Qv G Post) M) (kk : ∀ (M' : v_MM), Post M' → v_V G l y cc nL rt Z Qc (cells + Z'.cells) (slots + Z'.slots) (pc + 3) lv rest M') : v_V G l y cc nL rt Z Qc cells slots pc lv st M := by
  intro p e s m args below meth c H locs ls C P L
  obtain ⟨a', hr'⟩ := hr p e s m args below meth c H locs ls C P L.1.1
  exact va_callv hr' P.2.2.2 (fun q _ h => h) (fun q h => h) (fun M' t H1 locs1 ht hvm hw hB hz hk hS => kk M' hw p e s m args below meth c H1 locs1 ls C ⟨by rw [← ht]; exact hB.1, by rw [← ht]; exact hB.2.1, hB.2.2, hS⟩ L)
theorem v_cr {Post : Option Nat → v_MM → Prop} (hr : v_Rn G l y cc nL rt Z cells slots pc st rest Z' (v_Qr G Post) M) (kk : ∀ (r : Option Nat) (M' : v_MM), Post r M' → v_V G l y cc nL rt Z Qc (cells + Z'.cells) (slots + Z'.slots) (pc + 3) lv (va_rf r :: rest) M') : v_V G l y cc nL rt Z Qc cells slots pc lv st M := by
  intro p e s m args below meth c H locs ls C P L
  obtain ⟨a', hr'⟩ := hr p e s m args below meth c H locs ls C P L.1.1
  refine va_callq hr' P.2.2.2 (fun q _ h => h) (fun q h => h) (fun x u t H1 locs1 ht hvm hw hB hz hk hS => ?_)
  have k2 := kk u.1 u.2 hw.2 p e s m args below meth c H1 locs1 ls C ⟨by rw [← ht]; exact hB.1, by rw [← ht]; exact hB.2.1, hB.2.2, hS⟩ L
  rw [List.map_cons, v_tv_rf, ← hw.1] at k2
  exact k2
end VROWS3
