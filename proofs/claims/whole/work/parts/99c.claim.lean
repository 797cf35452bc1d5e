/-! THE LAW from its entry -/
theorem M11_n (ty : v_TY) (I : Nat → Nat → Int32) (J : Nat → Nat → Int64) (R : Nat → Nat → Option Nat) : (M11 ((1, ty), I, J, R)).1.1 = 55 := rfl
set_option maxRecDepth 20000 in
theorem whole_start {p : Program} {e : Env} {s : State} {m : MethodId} {below : List Frame} {meth : Method} {c : Code} (l : Launch) (hflags : l.flags = flags0) {b L : Nat} {xs : Nat → Int32} (hL : L ≤ 3072) (C0 : lw_At p s m meth c b L xs) : W p l e room_1 s m #[Value.ref b] below meth c s.heap [] 0 0 (lw_Z below #[Value.ref b] s) (entryFrame m ([Value.ref b] : List Value).toArray 4) := by
  obtain ⟨hx, hb, hr, hml, hown, hts, hX, hbl, hlocks, hgv⟩ := C0
  have hn : ∀ w ∈ nwL, w.before #[Value.ref b] s = true := flat_of_before _ hgv
  obtain ⟨G, g1, g5, gK, gX⟩ := s_G hts hn
  have C : v_C G l ⟨RL, meth.name, ""⟩ cL_law 4 ret p s m #[Value.ref b] meth c := ⟨hx, hb, hml, hown, fun w hw => hts w (List.mem_filter.mp hw).1, hr, hlocks, rfl, gK, gX, Nat.le_of_eq g1⟩
  have hX' : va_X (G.2.2.2 5) L xs s s.heap := by rw [g5]; exact hX
  have hbl' : G.2.2.2 5 < s.heap.size := by rw [g5]; exact hbl
  have hbA : ¬ v_A G (G.2.2.2 5) := by
    rw [g5]
    intro q
    have q : G.2.2.1 ≤ b := q
    omega
  have hQ : ∀ (cells slots : Nat) (lv : List (Option Value)) (M : v_MM), cells ≤ 628597 → slots ≤ 7216457 → v_S G l 4 room_1 (lw_Z below #[Value.ref b] s) p e s m #[Value.ref b] below meth c cells slots 1366 lv [.int 1] M := by
    intro cells slots lv M h1 h2 H locs ls P _
    refine W.widen h1 h2 (va_forget (fun q hq => ?_) (lw_ret hx hb hr hlocks dL_law_1366))
    have w : G.2.2.1 ≤ q.base := P.2.2.2.2.2 q hq
    omega
  have key : v_S G l 4 room_1 (lw_Z below #[Value.ref b] s) p e s m #[Value.ref b] below meth c 0 0 0 [some (.ref (1000000 + 5)), none, none, none] [] ((0, fun _ => (0, 0)), fun _ _ => 0, fun _ _ => 0, fun _ _ => none) := by
    refine ll_new C (pc := 0) nw_L_7 dL_law_0 (Nat.le_of_ble_eq_true rfl) (Nat.le_of_ble_eq_true rfl) (Nat.le_of_ble_eq_true rfl) ?_
    refine ll_dup C (pc := 3) dL_law_3 rfl ?_
    refine ll_cv C (pc := 4) (v_rI (c_X11_init G l v_is_new rfl) rfl kI_L_9 ⟨Nat.le_of_ble_eq_true rfl, Nat.le_of_ble_eq_true rfl⟩ ⟨Nat.le_of_ble_eq_true rfl, Nat.le_of_ble_eq_true rfl⟩ dL_law_4 (Nat.le_of_ble_eq_true rfl)) (fun M1 h1 => ?_)
    have e1 : M1 = M11 ((1, va_up (fun _ => (0, 0)) 0 (11, 0)), v_z (fun _ _ => 0) 0 0, v_z (fun _ _ => 0) 0 0, v_z (fun _ _ => none) 0 none) := h1
    clear h1
    obtain ⟨K2, I2, J2, R2, e2, k2, hJ⟩ := ZJ_start (va_up (fun _ => (0, 0)) 0 (11, 0)) (v_z (fun _ _ => 0) 0 0) (v_z (fun _ _ => 0) 0 0) (v_z (fun _ _ => none) 0 none) rfl (fun z => rfl)
    have n1 := M11_n (va_up (fun _ => (0, 0)) 0 (11, 0)) (v_z (fun _ _ => 0) 0 0) (v_z (fun _ _ => 0) 0 0) (v_z (fun _ _ => none) 0 none)
    have e2 : M12 (nX (M11 ((1, va_up (fun _ => (0, 0)) 0 (11, 0)), v_z (fun _ _ => 0) 0 0, v_z (fun _ _ => 0) 0 0, v_z (fun _ _ => none) 0 none))) = (K2, I2, J2, R2) := e2
    rw [← e1] at e2 n1
    clear e1
    obtain ⟨⟨c1, ty1⟩, I1, J1, R1⟩ := M1
    have n1 : c1 = 55 := n1
    subst n1
    refine ll_astore_n C (pc := 7) (x := 0) dL_law_7 rfl (by decide) rfl ?_
    refine ll_new C (pc := 8) nw_L_10 dL_law_8 (Nat.le_of_ble_eq_true rfl) (Nat.le_of_ble_eq_true rfl) (Nat.le_of_ble_eq_true rfl) ?_
    refine ll_dup C (pc := 11) dL_law_11 rfl ?_
    refine ll_cv C (pc := 12) (v_rI (c_X12_init G l v_is_new rfl) rfl kI_L_12 ⟨Nat.le_of_ble_eq_true rfl, Nat.le_of_ble_eq_true rfl⟩ ⟨Nat.le_of_ble_eq_true rfl, Nat.le_of_ble_eq_true rfl⟩ dL_law_12 (Nat.le_of_ble_eq_true rfl)) (fun M2 h2 => ?_)
    have e3 : M2 = M12 (nX ((55, ty1), I1, J1, R1)) := h2
    rw [e3, e2]
    refine ll_astore_n C (pc := 15) (x := 55) dL_law_15 rfl (by decide) rfl ?_
    refine ll_iconst C (pc := 16) (v := nI 0) dL_law_16 (by decide) ?_
    refine ll_istore_n C (pc := 17) dL_law_17 rfl (by decide) rfl ?_
    exact L_loop C hX' hbl' hbA hL rfl hQ 512 (i := 0) (by omega) (Nat.zero_le _) hJ (by rw [k2]; decide) (Nat.le_of_ble_eq_true rfl) (Nat.le_of_ble_eq_true rfl)
  have hl := lv_entry ([.ref b]) (n := 4) (Nat.le_of_ble_eq_true rfl)
  rw [lg_entry_eq]
  refine key s.heap [] _ ⟨fun k q h => ?_, by rw [g1]; rfl, Nat.zero_le _, va_S.rf⟩ ⟨?_, Nat.le_of_ble_eq_true rfl⟩
  · simp [v_ws] at h
  · have e : v_as G [some (.ref (1000000 + 5)), none, none, none] = [(0, .ref b)] := by
      show [(0, Value.ref (v_ad G (1000000 + 5)))] = _
      rw [v_ad_x, g5]
    rw [e]
    exact hl
-- ===== YOUR PART ENDS =====
set_option maxHeartbeats 4000000 in
theorem lw_walk (l : Launch) (hflags : l.flags = flags0) (b : Addr) (xs : List Int32) : MetFree l x (headSpec (Jvm.Cond.code x code maxLocals ret :: tables_1) room_1) (lw_P b xs) (fun _ _ _ _ _ => True) lw_Q := by
  refine MetFree.of_bodyS (code := code) (maxLocals := maxLocals) (ret := ret) (by decide) ?_ ?_
  · intro args s m h hn
    obtain ⟨meth, c, h1, h2, h3, h4, h5, h6, -, -⟩ := Cond.code_spec hn (atoms_spec (ws := Jvm.Cond.code x code maxLocals ret :: tables_1) h _ List.mem_cons_self)
    exact ⟨meth, c, h1, h2, h3, h4, h5, h6⟩
  · intro p e s m args below meth c s₁ B hml0 hP _
    obtain ⟨rfl, hx, hbd, hgv⟩ := hP
    obtain ⟨scr, harrAt, hlist, hof, hsmall⟩ := hx
    obtain ⟨hcb, hkn, -, -⟩ := State.arrayAt?_spec harrAt
    have hown : s.vm.findClass R_law = some m.cls := findClass_of_methodNamed B.named
    have hts0 : ∀ c ∈ (Jvm.Cond.code x code maxLocals ret :: tables_1), c.before #[Value.ref b] s = true := atoms_spec (ws := Jvm.Cond.code x code maxLocals ret :: tables_1) B.pre
    have hts : ∀ w ∈ lw_tbl, w.before #[Value.ref b] s = true := k2_hts_sels lw_privs (fun w hw => hts0 w (List.mem_cons_of_mem _ hw)) lw_privs_ok
    have hml : c.maxLocals = 4 := B.maxLocals_eq (hts0 _ List.mem_cons_self)
    have X₀ : Stand p l e room_1 s m #[Value.ref b] below meth c s₁ [] 0 0 := Stand.of_body B
    have hh0 : s₁.heap = s.heap := by rw [B.state]; rfl
    have hsz : scr.slots.size = xs.length := by rw [← Array.length_toList, hlist, List.length_map]
    have hval : ∀ j : Nat, j < xs.length → scr.slots[j]? = some (.int (xs.getD j 0)) := fun j hj => by
      rw [← Array.getElem?_toList, hlist]
      simp [hj]
    have hbl : b < s.heap.size := (Array.getElem?_eq_some_iff.mp hcb).1
    have hX : va_X b xs.length (fun j => xs.getD j 0) s s.heap := ⟨scr, hcb, hof, hkn, hsz, hval⟩
    have K : W p l e room_1 s m #[Value.ref b] below meth c s₁.heap [] 0 0 (lw_Z below #[Value.ref b] s) (entryFrame m ([Value.ref b] : List Value).toArray 4) := by
      rw [hh0]
      exact whole_start l hflags hbd ⟨B.exec, B.bytes, B.returns, hml, hown, hts, hX, hbl, B.notSynchronized, hgv⟩
    obtain ⟨t, a1, o, b1, b2, b3⟩ := K s₁ rfl X₀
    exact ⟨t, o, a1, b1, b2, b3⟩
theorem lw_pre_spec {args : Array Value} {s : State} (h : (Jvm.Cond.and given_1 narrow_1).before args s = true) (hr : rest_1_c.before args s = true) : ∃ (b : Addr) (xs : List Int32), lw_P b xs args s := by
  have hs := flat_of_before _ h
  have hq := flat_of_before _ hr
  have hc : (Cond.count 1).before args s = true := hs _ (by decide +kernel)
  have harr : (Cond.arrayOf (.arg 0) .int).before args s = true := hs _ (by decide +kernel)
  have hle : (Cond.le (.length (.arg 0)) (.int 3072)).before args s = true := hs _ (by decide +kernel)
  have hlen : (Cond.isInt (.length (.arg 0))).before args s = true := hq _ (by decide +kernel)
  have hall : (Cond.all (.arg 0) (.isInt (.elem (.arg 0) (.index 0)))).before args s = true := hq _ (by decide +kernel)
  obtain ⟨b, xs, hb, hx⟩ := State.ints_of_pre rfl harr hlen hall
  have hsm : xs.length < 2 ^ 31 := hx.choose_spec.2.2.2
  have hev : (Term.length (.arg 0)).eval args s none [] s = some (.int xs.length.toInt32) := hx.length_eval hb
  have hv := Cond.le_ints hev (show (Term.int 3072).eval args s none [] s = some (.int 3072) from rfl)
  have hd : xs.length.toInt32 ≤ 3072 := by
    simpa [Cond.before, Cond.holds, hv] using hle
  have hN : xs.length ≤ 3072 := (Int32.ofNat_le_ofNat hsm (by decide)).mp (show Int32.ofNat xs.length ≤ Int32.ofNat 3072 from hd)
  exact ⟨b, xs, Cond.one_arg hc (show args[0]? = some (.ref b) from hb), hx, hN, h⟩
theorem lw_comes (l : Launch) (hflags : l.flags = flags0) : Comes l x (Jvm.Cond.code x code maxLocals ret :: tables_1) room_1 (fun tb e args s => Calls_1 tb e args s ∧ rest_1 tb e args s ∧ Pre_1 tb e args s)
    (fun _ _ args s o t => lw_Q args s o t) := by
  intro p e ha hc hk s m args below hf hfit hheap happ hpre
  obtain ⟨b, xs, hP⟩ := lw_pre_spec hpre.2.2 hpre.2.1
  obtain ⟨k, o, h1, h2, h3, hQ⟩ := lw_walk l hflags b xs p e ha hc hk s m args below hf ((Spec.applies_iff_loose hf).mp happ).1 hP trivial
  exact ⟨k, o, h1, h2, h3, hQ⟩
theorem lw_frame {s t : State} {o : Outcome} {args : Array Value} (h : Framed s o t [] 628597 7216457) :
    Framed s o t (fieldLocs frame_1_writes args s ++ arrayLocs frame_1_arrays args s ++ staticLocs frame_1_statics s) 628597 7216457 := h
theorem lw_limb (L : Cond) (hL : ∀ (args : Array Value) (s t : State), L.after args s (.returned (some (.int 1))) t = true) :
    ArmFor flags0 classFile x code maxLocals ret World_1 tables_1 room_1 Calls_1 rest_1 Pre_1
      (fun tb e a s o t => postC L tb e a s o t ∧ Framed s o t (fieldLocs frame_1_writes a s ++ arrayLocs frame_1_arrays a s ++ staticLocs frame_1_statics s) 628597 7216457) := by
  intro l hflags _ _ p e ha hc hk s m args below hf hfit hheap happ hpre
  obtain ⟨k, o, h1, h2, h3, rfl, hF⟩ := lw_comes l hflags p e ha hc hk s m args below hf hfit hheap happ hpre
  exact ⟨k, _, h1, h2, h3, hL args s _, lw_frame hF⟩
theorem i_vc : Claimed_1_1 ∧ Claimed_1_2 := ⟨lw_limb limb_1_1 (fun args s t => by simp [limb_1_1, Cond.after, Cond.holds, Cond.value]), lw_limb limb_1_2 (fun args s t => Cond.after_iff.mpr (by
  first | (rw [show limb_1_2 = Cond.eq .result (.int 1) from rfl, Cond.eq_ints (x := 1) (y := 1) rfl rfl]; simp; done) | (simp [limb_1_2, Cond.value, Term.eval]; done)))⟩
