/-! super.m(..), where the superclass itself inherits m -/
section SUPERUP
variable {p : Program} {l : Launch} {e : Env} {Rm : Room} {s : State} {m : MethodId} {args : Array Value} {below : List Frame} {meth : Method} {c : Code}
theorem su_sub {X Y : String} {cn : ClassId} (hcn : s.vm.findClass X = some cn) (hsup : (Cond.superclass X Y).before args s = true) {mk : ClassId} (hmk : s.vm.findClass Y = some mk) : s.vm.isSubclass cn mk = true := by
  obtain ⟨ps, dk, kp, hps, hdk, -, hsuper, -, -, -⟩ := Cond.superclass_spec hcn hsup
  cases hmk.symm.trans hps
  obtain ⟨k, hk⟩ : ∃ k, s.vm.classes.size = k + 1 := ⟨s.vm.classes.size - 1, by have := (Array.getElem?_eq_some_iff.mp hdk).1; omega⟩
  simp [Vm.isSubclass, Vm.isSubclassAux, hk, hdk, hsuper]
variable {H : Heap} {locs : List Loc} {cells slots : Nat}
theorem su_run {X : String} {y : MethodName} {bytes cc : ByteArray} {maxL nL n index : Nat} {ret : Option FieldType} {rm : Room} {Pc : Array Value → State → Prop} {Qc : Array Value → State → Outcome → State → Prop} {free : Addr → Prop} {Ts : List Cond} {own C : String} {cC : ClassId} {b : Addr} {As rest : List Value} {g : JFrame}
    {ws : List Cond} (hat : ClassAt s C cC) (S : CallFix p m c cc nL s args Ts own) (hM : Met l y ws rm Pc Qc rm.cells rm.slots free)
    (hfit : rm.frames + 1 ≤ Rm.frames ∧ 8 + (maxL + 11) + rm.locals ≤ Rm.locals) (hws : ∀ w ∈ ws, ∀ (a' : Array Value) (U : State), s.WarmedH U.vm → w.before a' U = true) (hcw : Cond.code y bytes maxL ret ∈ ws)
    (hl1 : (Cond.methodLink own index ⟨X, y.name, y.desc⟩).before args s = true) (hl2 : (Cond.sameMethod X y.cls y.name y.desc).before args s = true) (hl3 : (Cond.superclass own X).before args s = true) (hl3b : (Cond.superclass X y.cls).before args s = true)
    (hl4 : (Cond.instanceMethod y).before args s = true) (hini : (Cond.initialized y.cls).before args s = true) (hcode : (Cond.code y bytes maxL ret).before args s = true) (hno : y.name ≠ "<init>") (hlen : ∀ sig, parseMethodDescriptor y.desc = some sig → n = sig.parameters.length)
    (hp : PreV s H C b Pc As) (hg : g.method = m) (hn : As.length = n) (hsize : g.locals.size = nL) (hstack : g.stack = As.reverse ++ .ref b :: rest) (hW : 2 * g.monitorRoom + (rest.map fun v => v.category).sum ≤ 8) (hdg : decode cc g.pc = .ok (.invokespecial index, 3)) (hf : cells + rm.cells ≤ Rm.cells ∧ slots + rm.slots ≤ Rm.slots) :
    va_Run p l e Rm s m args below meth c H locs cells slots rm.cells rm.slots g rest (Qc (Value.ref b :: As).toArray) (free) := by
  have hK : Back l Rm p e below s args y 3 8 (PreOf Rm rm.cells rm.slots Pc) (PostOf Qc rm.cells rm.slots free) := back_of (bytes := bytes) (maxL := maxL) (ret := ret) hM hp.1 rfl rfl hfit.1 hfit.2 hws hcw (fun a' U hW => word_at hW (Or.inl (by first | rfl | simp [Cond.onTables, Cond.keeps, Cond.steady])) hini)
  obtain ⟨hx, hb, hml, ho, -⟩ := S
  obtain ⟨-, ⟨cellB, hcB, hoB, hclB⟩, hPc⟩ := hp
  obtain ⟨hfc, kB, hkB, -⟩ := hat
  cases hfc.symm.trans hclB
  obtain ⟨mk, methM, hnamed, hmethM, hstM, habM⟩ := Cond.instanceMethod_spec hl4
  obtain ⟨methM', cM, hmethM', -, -, -, -, -, -, hsigM⟩ := Cond.code_spec hnamed hcode
  cases hmethM.symm.trans hmethM'
  obtain ⟨ps, dk, kp, hps, hdk, hkp, hsuper, -, -, hnid⟩ := Cond.superclass_spec ho hl3
  have hsub : s.vm.isSubclass ps mk.cls = true := su_sub hps hl3b (findClass_of_methodNamed hnamed)
  intro T hT Xs
  obtain ⟨vm₁, X₁, hstep₁⟩ := Xs.invokespecialUp hx (x := ⟨X, y.name, y.desc⟩) ho hl1 hl2 hnamed hmethM hstM habM hno hdk hnid hps hsuper hsub (a := b) (cell := cellB) (by rw [hT]; exact hcB)
    (fun z h => by rw [h] at hoB; cases hoB) hkB (g := g) hg (argsL := As) (rest := rest) (hn.trans (hlen _ hsigM)) hstack (by rw [hb]; exact hdg)
  obtain ⟨v, ⟨U', l2, c2, s2⟩, X', ⟨g', mk', t, L, e1, e2, hq, h1, hL, h2, h3⟩, hsteps⟩ := hK m meth c ⟨T.setVm vm₁, locs, cells, slots⟩ { g with stack := rest } (.invokespecial index) mk (Value.ref b :: As).toArray X₁ hg (hsize.trans hml.symm) (by rw [hb]; exact hdg) hW (X₁.named hnamed) ⟨hf.1, hf.2, hPc (T.setVm vm₁) hT X₁.warmed⟩
  dsimp only [Pt.U, Pt.locs, Pt.cells, Pt.slots] at X' e1 e2 h1 h2 h3 hsteps
  subst h1; subst h2; subst h3
  exact ⟨v, (T.setVm vm₁).calling g' mk' (Value.ref b :: As).toArray, t, U', L, hT, X', hL, e1, e2, hq, fun target h => hstep₁ _ (by rw [doInvoke_state]; exact hsteps.trans h)⟩
end SUPERUP
def v_cPU (own : String) (idx : Nat) (X : String) (y : MethodName) (cc : ByteArray) (nL : Nat) (rt : Option FieldType) (n : Nat) : Prop :=
  Cond.methodLink own idx ⟨X, y.name, y.desc⟩ ∈ wsG ∧ Cond.sameMethod X y.cls y.name y.desc ∈ wsG ∧ Cond.superclass own X ∈ wsG ∧ Cond.superclass X y.cls ∈ wsG ∧ Cond.instanceMethod y ∈ wsG ∧ Cond.initialized y.cls ∈ wsG ∧ Cond.code y cc nL rt ∈ wsG ∧ y.name ≠ "<init>" ∧ (parseMethodDescriptor y.desc).map (fun d => d.parameters.length) = some n
section SUPERUP2
variable {G : v_G} {l : Launch} {y : MethodName} {cc : ByteArray} {nL : Nat} {rt : Option FieldType} {Z : Room} {Qc : Array Value → State → Outcome → State → Prop} {cells slots pc : Nat} {lv : List (Option Value)} {st : List Value} {M : v_MM}
variable {K : Nat × v_TY} {I : Nat → Nat → Int32} {J : Nat → Nat → Int64} {R : Nat → Nat → Option Nat} {h n : Nat}
variable {y' : MethodName} {cc' : ByteArray} {nL' : Nat} {rt' : Option FieldType} {Z' : Room} {av rest : List Value} {Qc' : Array Value → State → Outcome → State → Prop}
theorem v_rPU {ci : Nat} {q : vw_C} {idx : Nat} {X : String} (hM : v_M G l y' cc' nL' rt' Z' (.ref h :: av) (K, I, J, R) Qc') (hst : st = av.reverse ++ .ref h :: rest) (hw : v_cPU y.cls idx X y' cc' nL' rt' av.length) (hi : v_is K h ci n) (hq : vwCl[ci]? = some q) (hk : ci < 13) (hz : v_fit Z Z' nL') (hc : cells + Z'.cells ≤ Z.cells ∧ slots + Z'.slots ≤ Z.slots) (hd : decode cc pc = .ok (.invokespecial idx, 3)) (hcat : (rest.map fun v => v.category).sum ≤ 8) : v_Rn G l y cc nL rt Z cells slots pc st rest Z' Qc' (K, I, J, R) := by
  subst hst
  intro p e s m args below meth c H locs ls C P hls
  obtain ⟨w1, w2, w3, w4, w5, w6, w7, w8, w9⟩ := hw
  have T := C.2.2.2.2.1
  have hG : GoodIn wsG (v_wy y' cc' nL' rt') := v_goodIn w7
  exact ⟨_, su_run (C := q.1) (C.2.2.2.2.2.2.2.2.1.1 ci q hq).2 (X := X) (bytes := cc') (maxL := nL') (ret := rt') (b := v_ad G h) (As := av.map (v_tv G)) (n := av.length) (Ts := wsG) ⟨C.1, C.2.1, C.2.2.1, C.2.2.2.1, C.2.2.2.2.1⟩ hM hz (pay_in T hG) (List.mem_cons_self)
    (T _ w1) (T _ w2) (T _ w3) (T _ w4) (T _ w5) (T _ w6) (T _ w7) w8 (fun sig hs => by rw [hs] at w9; exact (Option.some.inj w9).symm)
    ⟨v_blind _ _ _, v_rcO hi hq hk s H locs C.2.2.2.2.2.2.2.2.1 C.2.2.2.2.2.2.2.2.2.1 P, fun U hU hW => ⟨rfl, v_pre C.2.2.2.2.2.2.2.2.1 C.2.2.2.2.2.2.2.2.2.1 P U hU hW⟩⟩ rfl (by simp) hls (v_mapapp _ _) (lv_room (by rw [v_catsum]; exact hcat)) hd hc⟩
end SUPERUP2
theorem wg_380 : Cond.superclass "OneFriend$Told" "OneFriend$Moody" ∈ wsG := v_i2 68 (by decide +kernel)
theorem kPU_X0_29 : v_cPU RX0 29 "OneFriend$Weighty" yX2_meets cX2_meets 3 (some .int) 2 := ⟨wg_883, wg_884, wg_360, wg_330, wg_873, wg_80, wg_900, by decide, by decide +kernel⟩
theorem kPU_X4_29 : v_cPU RX4 29 "OneFriend$Secret" yX2_tells cX2_tells 3 (some .int) 2 := ⟨wg_944, wg_945, wg_370, wg_340, wg_927, wg_80, wg_949, by decide, by decide +kernel⟩
theorem kPU_X6_25 : v_cPU RX6 25 "OneFriend$Moody" yX2_counts cX2_counts 3 (some .int) 2 := ⟨wg_920, wg_921, wg_380, wg_350, wg_903, wg_80, wg_924, by decide, by decide +kernel⟩
theorem kPU_X6_29 : v_cPU RX6 29 "OneFriend$Moody" yX2_meets cX2_meets 3 (some .int) 2 := ⟨wg_897, wg_898, wg_380, wg_350, wg_873, wg_80, wg_900, by decide, by decide +kernel⟩
