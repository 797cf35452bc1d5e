/-! THE CLAIM OUT OF ONE WALK OF THE LAW'S BODY. Your part is whole_start (and what it stands on); all else here is the same for every law, but numbers. -/
def R_law : String := "OneFriendLaw"
def lw_P (b : Addr) (xs : List Int32) (args : Array Value) (s : State) : Prop := args = #[.ref b] ∧ s.IntsAt b xs ∧ xs.length ≤ 3072 ∧ (Jvm.Cond.and given_1 narrow_1).before args s = true
def lw_Q (_ : Array Value) (s : State) (o : Outcome) (t : State) : Prop := o = .returned (some (.int 1)) ∧ Framed s o t [] 628597 7216457
def lw_Z (below : List Frame) (a : Array Value) (s : State) : State → Prop := fun t => ∃ o, t.status = .running ∧ Ended t below o ∧ lw_Q a s o t
/-- the law's own end, with 1 on the stack, nothing written that was there before, its room as the claim has it -/
theorem lw_ret {p : Program} {l : Launch} {e : Env} {s : State} {m : MethodId} {below : List Frame} {meth : Method} {c : Code} {b : Nat} (hx : p.tables.exec = Jvm.exec) (hb : c.code = code) (hr : meth.sig.returnType = ret) (hlocks : meth.locks = false) {pc : Nat} {H : Heap} {ls : Array Slot} (hdg : decode code pc = .ok (.ireturn, 1)) : W p l e room_1 s m #[Value.ref b] below meth c H [] 628597 7216457 (lw_Z below #[Value.ref b] s) (F0 m pc ls [.int 1]) := by
  intro T hT X
  obtain ⟨fs, hret, hrun, hended, hW, hframe⟩ := X.leave (v := some (.int 1)) (hlocks := hlocks) (fun h => by rw [hr] at h; cases h)
  have hmeth' : T.vm.method? m = some meth := X.method'
  refine ⟨T.setFrames fs, ?_, .returned (some (.int 1)), hrun, hended, rfl, ⟨_, rfl⟩, hW, hframe⟩
  jvm_step X.here [X.here.top, hx, hb, hdg, hmeth', hr, ret, narrow_b1]
  (try refine ⟨rfl, ?_⟩); (try refine ⟨rfl, ?_⟩)
  first | (intro acts; rw [hret _ acts rfl rfl rfl]) | rw [hret _ _ rfl rfl rfl]
  exact Steps.refl _
/-- what holds at the law's entry: the machine, the code, the tables' words (any of lw_tbl by 'hts w (by decide +kernel)'), the script of L ints xs at the cell b, what the Statement gives of the start (any of its parts by flat_of_before) -/
def lw_At (p : Program) (s : State) (m : MethodId) (meth : Method) (c : Code) (b L : Nat) (xs : Nat → Int32) : Prop :=
  p.tables.exec = Jvm.exec ∧ c.code = code ∧ meth.sig.returnType = ret ∧ c.maxLocals = 4 ∧ s.vm.findClass R_law = some m.cls ∧ (∀ w ∈ lw_tbl, w.before #[Value.ref b] s = true) ∧ va_X b L xs s s.heap ∧ b < s.heap.size ∧ meth.locks = false ∧ (Jvm.Cond.and given_1 narrow_1).before #[Value.ref b] s = true
/-! THE LAW: its end, its switch, its loop -/
theorem and63 (x : Int32) : ∃ w : Nat, w < 64 ∧ x &&& nI 63 = nI w := by
  refine ⟨(x.toBitVec &&& 63#32).toNat, ?_, ?_⟩
  · rw [BitVec.toNat_and]
    exact Nat.lt_of_le_of_lt Nat.and_le_right (by decide)
  · apply Int32.toBitVec_inj.mp
    rw [Int32.toBitVec_and]
    show x.toBitVec &&& 63#32 = BitVec.ofNat 32 (x.toBitVec &&& 63#32).toNat
    rw [BitVec.ofNat_toNat, BitVec.setWidth_eq]
theorem lw_cmp {L i : Nat} (hL : L ≤ 3072) (hi : i ≤ 3072) : nI L - 6 < nI i ↔ L < i + 6 := by
  rw [Int32.lt_iff_toInt_lt, nI_toInt (by omega), show (6 : Int32) = nI 6 from rfl, t_sub (by omega) (by omega)]
  omega
set_option maxRecDepth 20000 in
theorem L_switch {G : v_G} {l : Launch} {nm : String} {rt : Option FieldType} {Q : State → Prop} {p : Program} {e : Env} {s : State} {m : MethodId} {args : Array Value} {below : List Frame} {meth : Method} {c : Code} {L i : Nat} {xs : Nat → Int32} (C : v_C G l ⟨RL, nm, ""⟩ cL_law 4 rt p s m args meth c) (hX : va_X (G.2.2.2 5) L xs s s.heap) (hbl : G.2.2.2 5 < s.heap.size) (hbA : ¬ v_A G (G.2.2.2 5)) (hL : L ≤ 3072) (hi : i + 6 ≤ L) {K : Nat × v_TY} {I : Nat → Nat → Int32} {J : Nat → Nat → Int64} {R : Nat → Nat → Option Nat} {g : ZS} {cells slots w : Nat} (hw : w < 64) (h : ZJ K I J R g) (hK : K.1 < 700000) (hc : cells ≤ 600000) (hs : slots ≤ 7000000)
    (kk : ∀ K' I' J' R' g', ZJ K' I' J' R' g' → K'.1 ≤ K.1 + 6 → v_S G l 4 room_1 Q p e s m args below meth c (cells + 6) (slots + 300) 1359 [some (.ref (1000000 + 5)), some (.ref 0), some (.ref 55), some (.int (nI i))] [] (K', I', J', R')) : v_S G l 4 room_1 Q p e s m args below meth c cells slots 33 [some (.ref (1000000 + 5)), some (.ref 0), some (.ref 55), some (.int (nI i))] [.int (nI w)] (K, I, J, R) := by
  rcases (show w = 0 ∨ w = 1 ∨ w = 2 ∨ w = 3 ∨ w = 4 ∨ w = 5 ∨ w = 6 ∨ w = 7 ∨ w = 8 ∨ w = 9 ∨ w = 10 ∨ w = 11 ∨ w = 12 ∨ w = 13 ∨ w = 14 ∨ w = 15 ∨ w = 16 ∨ w = 17 ∨ w = 18 ∨ w = 19 ∨ w = 20 ∨ w = 21 ∨ w = 22 ∨ w = 23 ∨ w = 24 ∨ w = 25 ∨ w = 26 ∨ w = 27 ∨ w = 28 ∨ w = 29 ∨ w = 30 ∨ w = 31 ∨ w = 32 ∨ w = 33 ∨ w = 34 ∨ w = 35 ∨ w = 36 ∨ w = 37 ∨ 38 ≤ w by omega) with rfl | rfl | rfl | rfl | rfl | rfl | rfl | rfl | rfl | rfl | rfl | rfl | rfl | rfl | rfl | rfl | rfl | rfl | rfl | rfl | rfl | rfl | rfl | rfl | rfl | rfl | rfl | rfl | rfl | rfl | rfl | rfl | rfl | rfl | rfl | rfl | rfl | rfl | hw2
  · exact ll_tableIn C (pc := 33) (off := 167) (tgt := 200) dL_law_33 (by decide) (by decide) (by decide) (by decide) (L_person C hX hbl hbA hL hi h hK hc hs kk)
  · exact ll_tableIn C (pc := 33) (off := 200) (tgt := 233) dL_law_33 (by decide) (by decide) (by decide) (by decide) (L_of C hX hbl hbA hL hi h hK hc hs kk)
  · exact ll_tableIn C (pc := 33) (off := 233) (tgt := 266) dL_law_33 (by decide) (by decide) (by decide) (by decide) (L_friends C hX hbl hbA hL hi h hK hc hs kk)
  · exact ll_tableIn C (pc := 33) (off := 292) (tgt := 325) dL_law_33 (by decide) (by decide) (by decide) (by decide) (L_pair C hX hbl hbA hL hi h hK hc hs kk)
  · exact ll_tableIn C (pc := 33) (off := 325) (tgt := 358) dL_law_33 (by decide) (by decide) (by decide) (by decide) (L_at C hX hbl hbA hL hi h hK hc hs kk)
  · exact ll_tableIn C (pc := 33) (off := 358) (tgt := 391) dL_law_33 (by decide) (by decide) (by decide) (by decide) (L_row C hX hbl hbA hL hi h hK hc hs kk)
  · exact ll_tableIn C (pc := 33) (off := 401) (tgt := 434) dL_law_33 (by decide) (by decide) (by decide) (by decide) (L_feed C hX hbl hbA hL hi h hK hc hs kk)
  · exact ll_tableIn C (pc := 33) (off := 424) (tgt := 457) dL_law_33 (by decide) (by decide) (by decide) (by decide) (L_town C hX hbl hbA hL hi h hK hc hs kk)
  · exact ll_tableIn C (pc := 33) (off := 437) (tgt := 470) dL_law_33 (by decide) (by decide) (by decide) (by decide) (L_year C hX hbl hbA hL hi h hK hc hs kk)
  · exact ll_tableIn C (pc := 33) (off := 450) (tgt := 483) dL_law_33 (by decide) (by decide) (by decide) (by decide) (L_told C hX hbl hbA hL hi h hK hc hs kk)
  · exact ll_tableIn C (pc := 33) (off := 473) (tgt := 506) dL_law_33 (by decide) (by decide) (by decide) (by decide) (L_amiss C hX hbl hbA hL hi h hK hc hs kk)
  · exact ll_tableIn C (pc := 33) (off := 496) (tgt := 529) dL_law_33 (by decide) (by decide) (by decide) (by decide) (L_alls C hX hbl hbA hL hi h hK hc hs kk)
  · exact ll_tableIn C (pc := 33) (off := 509) (tgt := 542) dL_law_33 (by decide) (by decide) (by decide) (by decide) (L_first C hX hbl hbA hL hi h hK hc hs kk)
  · exact ll_tableIn C (pc := 33) (off := 532) (tgt := 565) dL_law_33 (by decide) (by decide) (by decide) (by decide) (L_cheapest C hX hbl hbA hL hi h hK hc hs kk)
  · exact ll_tableIn C (pc := 33) (off := 555) (tgt := 588) dL_law_33 (by decide) (by decide) (by decide) (by decide) (L_goes C hX hbl hbA hL hi h hK hc hs kk)
  · exact ll_tableIn C (pc := 33) (off := 578) (tgt := 611) dL_law_33 (by decide) (by decide) (by decide) (by decide) (L_befriends C hX hbl hbA hL hi h hK hc hs kk)
  · exact ll_tableIn C (pc := 33) (off := 621) (tgt := 654) dL_law_33 (by decide) (by decide) (by decide) (by decide) (L_complain C hX hbl hbA hL hi h hK hc hs kk)
  · exact ll_tableIn C (pc := 33) (off := 654) (tgt := 687) dL_law_33 (by decide) (by decide) (by decide) (by decide) (L_made C hX hbl hbA hL hi h hK hc hs kk)
  · exact ll_tableIn C (pc := 33) (off := 667) (tgt := 700) dL_law_33 (by decide) (by decide) (by decide) (by decide) (L_far C hX hbl hbA hL hi h hK hc hs kk)
  · exact ll_tableIn C (pc := 33) (off := 700) (tgt := 733) dL_law_33 (by decide) (by decide) (by decide) (by decide) (L_towns C hX hbl hbA hL hi h hK hc hs kk)
  · exact ll_tableIn C (pc := 33) (off := 733) (tgt := 766) dL_law_33 (by decide) (by decide) (by decide) (by decide) (L_next C hX hbl hbA hL hi h hK hc hs kk)
  · exact ll_tableIn C (pc := 33) (off := 766) (tgt := 799) dL_law_33 (by decide) (by decide) (by decide) (by decide) (L_odds C hX hbl hbA hL hi h hK hc hs kk)
  · exact ll_tableIn C (pc := 33) (off := 790) (tgt := 823) dL_law_33 (by decide) (by decide) (by decide) (by decide) (L_mean C hX hbl hbA hL hi h hK hc hs kk)
  · exact ll_tableIn C (pc := 33) (off := 814) (tgt := 847) dL_law_33 (by decide) (by decide) (by decide) (by decide) (L_wish C hX hbl hbA hL hi h hK hc hs kk)
  · exact ll_tableIn C (pc := 33) (off := 863) (tgt := 896) dL_law_33 (by decide) (by decide) (by decide) (by decide) (L_kept C hX hbl hbA hL hi h hK hc hs kk)
  · exact ll_tableIn C (pc := 33) (off := 886) (tgt := 919) dL_law_33 (by decide) (by decide) (by decide) (by decide) (L_book C hX hbl hbA hL hi h hK hc hs kk)
  · exact ll_tableIn C (pc := 33) (off := 919) (tgt := 952) dL_law_33 (by decide) (by decide) (by decide) (by decide) (L_looked C hX hbl hbA hL hi h hK hc hs kk)
  · exact ll_tableIn C (pc := 33) (off := 932) (tgt := 965) dL_law_33 (by decide) (by decide) (by decide) (by decide) (L_judge C hX hbl hbA hL hi h hK hc hs kk)
  · exact ll_tableIn C (pc := 33) (off := 965) (tgt := 998) dL_law_33 (by decide) (by decide) (by decide) (by decide) (L_image C hX hbl hbA hL hi h hK hc hs kk)
  · exact ll_tableIn C (pc := 33) (off := 978) (tgt := 1011) dL_law_33 (by decide) (by decide) (by decide) (by decide) (L_undo C hX hbl hbA hL hi h hK hc hs kk)
  · exact ll_tableIn C (pc := 33) (off := 991) (tgt := 1024) dL_law_33 (by decide) (by decide) (by decide) (by decide) (L_act C hX hbl hbA hL hi h hK hc hs kk)
  · exact ll_tableIn C (pc := 33) (off := 1034) (tgt := 1067) dL_law_33 (by decide) (by decide) (by decide) (by decide) (L_trace C hX hbl hbA hL hi h hK hc hs kk)
  · exact ll_tableIn C (pc := 33) (off := 1057) (tgt := 1090) dL_law_33 (by decide) (by decide) (by decide) (by decide) (L_taken C hX hbl hbA hL hi h hK hc hs kk)
  · exact ll_tableIn C (pc := 33) (off := 1090) (tgt := 1123) dL_law_33 (by decide) (by decide) (by decide) (by decide) (L_count C hX hbl hbA hL hi h hK hc hs kk)
  · exact ll_tableIn C (pc := 33) (off := 1113) (tgt := 1146) dL_law_33 (by decide) (by decide) (by decide) (by decide) (L_tape C hX hbl hbA hL hi h hK hc hs kk)
  · exact ll_tableIn C (pc := 33) (off := 1156) (tgt := 1189) dL_law_33 (by decide) (by decide) (by decide) (by decide) (L_item C hX hbl hbA hL hi h hK hc hs kk)
  · exact ll_tableIn C (pc := 33) (off := 1229) (tgt := 1262) dL_law_33 (by decide) (by decide) (by decide) (by decide) (L_read C hX hbl hbA hL hi h hK hc hs kk)
  · exact ll_tableIn C (pc := 33) (off := 1263) (tgt := 1296) dL_law_33 (by decide) (by decide) (by decide) (by decide) (L_shift C hX hbl hbA hL hi h hK hc hs kk)
  · refine ll_tableOut C (pc := 33) (tgt := 1359) dL_law_33 (Or.inr (by rw [nI_toInt (by omega)]; omega)) (by decide) ?_
    exact ll_wide (Nat.le_add_right _ _) (Nat.le_add_right _ _) (kk K I J R g h (Nat.le_add_right _ _))
/-- the loop, from its head, n turns at most to go -/
theorem L_loop {G : v_G} {l : Launch} {nm : String} {rt : Option FieldType} {Q : State → Prop} {p : Program} {e : Env} {s : State} {m : MethodId} {args : Array Value} {below : List Frame} {meth : Method} {c : Code} {L : Nat} {xs : Nat → Int32} (C : v_C G l ⟨RL, nm, ""⟩ cL_law 4 rt p s m args meth c) (hX : va_X (G.2.2.2 5) L xs s s.heap) (hbl : G.2.2.2 5 < s.heap.size) (hbA : ¬ v_A G (G.2.2.2 5)) (hL : L ≤ 3072) (hrt : rt = ret) (hQ : ∀ (cells slots : Nat) (lv : List (Option Value)) (M : v_MM), cells ≤ 628597 → slots ≤ 7216457 → v_S G l 4 room_1 Q p e s m args below meth c cells slots 1366 lv [.int 1] M) : ∀ (n : Nat) {i : Nat} {K : Nat × v_TY} {I : Nat → Nat → Int32} {J : Nat → Nat → Int64} {R : Nat → Nat → Option Nat} {g : ZS} {cells slots : Nat}, L ≤ i + 6 * n + 5 → i ≤ L → ZJ K I J R g → K.1 + 6 * n < 600000 → cells + 6 * n ≤ 600000 → slots + 300 * n ≤ 7000000 → v_S G l 4 room_1 Q p e s m args below meth c cells slots 18 [some (.ref (1000000 + 5)), some (.ref 0), some (.ref 55), some (.int (nI i))] [] (K, I, J, R)
  | 0, i, K, I, J, R, g, cells, slots, h1, h2, h, hK, hc, hs => by
    refine ll_iload_n C (pc := 18) dL_law_18 rfl rfl ?_
    refine ll_aload_n C (pc := 19) dL_law_19 rfl rfl ?_
    refine ll_slen C (pc := 20) hX hbl hbA dL_law_20 ?_
    refine ll_bipush C (pc := 21) (v := 6) dL_law_21 (by decide) ?_
    refine ll_isub C (pc := 23) dL_law_23 ?_
    refine ll_icmp_gt C (pc := 24) (tgt := 1365) dL_law_24 (by decide) (fun _ => ll_iconst C (pc := 1365) (v := 1) dL_law_1365 (by decide) (hQ _ _ _ _ (by omega) (by omega))) (fun q => absurd ((lw_cmp hL (by omega)).mpr (by omega)) q)
  | n + 1, i, K, I, J, R, g, cells, slots, h1, h2, h, hK, hc, hs => by
    refine ll_iload_n C (pc := 18) dL_law_18 rfl rfl ?_
    refine ll_aload_n C (pc := 19) dL_law_19 rfl rfl ?_
    refine ll_slen C (pc := 20) hX hbl hbA dL_law_20 ?_
    refine ll_bipush C (pc := 21) (v := 6) dL_law_21 (by decide) ?_
    refine ll_isub C (pc := 23) dL_law_23 ?_
    refine ll_icmp_gt C (pc := 24) (tgt := 1365) dL_law_24 (by decide) (fun _ => ll_iconst C (pc := 1365) (v := 1) dL_law_1365 (by decide) (hQ _ _ _ _ (by omega) (by omega))) (fun q => ?_)
    have hi : i + 6 ≤ L := Nat.not_lt.mp (fun w => q ((lw_cmp hL (by omega)).mpr w))
    refine ll_aload_n C (pc := 27) dL_law_27 rfl rfl ?_
    refine ll_iload_n C (pc := 28) dL_law_28 rfl rfl ?_
    refine ll_sld C (pc := 29) hX hbl hbA (vp_in_nI (by omega) (by omega)) dL_law_29 ?_
    refine ll_bipush C (pc := 30) (v := nI 63) dL_law_30 (by decide) ?_
    refine ll_iand C (pc := 32) dL_law_32 ?_
    obtain ⟨w, hw, ew⟩ := and63 (xs (nI i).toNatClampNeg)
    rw [ew]
    refine L_switch C hX hbl hbA hL hi hw h (by omega) (by omega) (by omega) (fun K' I' J' R' g' h' hK' => ?_)
    refine ll_iinc C (pc := 1359) dL_law_1359 rfl (v := 6) (by decide) (by decide) rfl ?_
    refine ll_goto C (pc := 1362) (tgt := 18) dL_law_1362 (by decide) ?_
    show v_S G l 4 room_1 Q p e s m args below meth c (cells + 6) (slots + 300) 18 [some (.ref (1000000 + 5)), some (.ref 0), some (.ref 55), some (.int (nI i + nI 6))] [] (K', I', J', R')
    rw [nI_add]
    exact L_loop C hX hbl hbA hL hrt hQ n (by omega) hi h' (by omega) (by omega) (by omega)
