/-! THE CLASS: a town's clauses, kept as steps; what waits is bits of a long -/
def lb (x : Int64) (i : Nat) : Bool := x.toBitVec.getLsbD i
theorem lb_ext {x y : Int64} (h : ∀ i, i < 64 → lb x i = lb y i) : x = y := Int64.toBitVec_inj.mp (BitVec.eq_of_getLsbD_eq (fun i hi => h i hi))
theorem lb_or (x y : Int64) (i : Nat) : lb (x ||| y) i = (lb x i || lb y i) := by unfold lb; rw [Int64.toBitVec_or, BitVec.getLsbD_or]
theorem lb_and (x y : Int64) (i : Nat) : lb (x &&& y) i = (lb x i && lb y i) := by unfold lb; rw [Int64.toBitVec_and, BitVec.getLsbD_and]
theorem lb_xor (x y : Int64) (i : Nat) : lb (x ^^^ y) i = (lb x i ^^ lb y i) := by unfold lb; rw [Int64.toBitVec_xor, BitVec.getLsbD_xor]
theorem lb_N {n i : Nat} (hi : i < 64) : lb (lN n) i = n.testBit i := by
  show (BitVec.ofNat 64 n).getLsbD i = _
  rw [BitVec.getLsbD_ofNat]; simp [hi]
theorem lb_1 (i : Nat) (hi : i < 64) : lb 1 i = decide (i = 0) := by
  have e : (1 : Int64) = lN 1 := rfl
  rw [e, lb_N hi]
  cases i with
  | zero => rfl
  | succ i => rw [Nat.testBit_succ]; simp
theorem lb_m2 : ∀ i, i < 64 → lb (-2) i = decide (i ≠ 0) := by decide +kernel
theorem l_sh : (((nI 1).toInt64 &&& 63).toBitVec.smod 64).toNat = 1 := by decide +kernel
theorem lb_shl (x : Int64) {i : Nat} (hi : i < 64) : lb (x <<< ((nI 1).toInt64 &&& 63)) i = (decide (1 ≤ i) && lb x (i - 1)) := by
  unfold lb
  rw [Int64.toBitVec_shiftLeft]
  show (x.toBitVec <<< (((nI 1).toInt64 &&& 63).toBitVec.smod 64).toNat).getLsbD i = _
  rw [l_sh, BitVec.getLsbD_shiftLeft]
  rcases Nat.lt_or_ge i 1 with h | h
  · simp [h, Nat.not_le.mpr h]
  · simp [hi, h, Nat.not_lt.mpr h]
theorem lb_shr (x : Int64) {i : Nat} (hi : i < 64) : lb (x >>> ((nI 1).toInt64 &&& 63)) i = if 1 + i < 64 then lb x (1 + i) else lb x 63 := by
  unfold lb
  rw [Int64.toBitVec_shiftRight]
  show (x.toBitVec.sshiftRight (((nI 1).toInt64 &&& 63).toBitVec.smod 64).toNat).getLsbD i = _
  rw [l_sh, BitVec.getLsbD_sshiftRight, BitVec.msb_eq_getLsbD_last]
  simp [hi]
def bl : List Bool → Nat
  | [] => 0
  | b :: r => 2 * bl r + if b = true then 1 else 0
theorem bl_0 (b : Bool) (r : List Bool) : (bl (b :: r)).testBit 0 = b := by
  rw [Nat.testBit_zero]
  show decide ((2 * bl r + if b = true then 1 else 0) % 2 = 1) = b
  cases b <;> simp <;> omega
theorem bl_s (b : Bool) (r : List Bool) (i : Nat) : (bl (b :: r)).testBit (i + 1) = (bl r).testBit i := by
  rw [Nat.testBit_succ]
  congr 1
  show (2 * bl r + if b = true then 1 else 0) / 2 = bl r
  cases b <;> simp <;> omega
theorem bl_lt : ∀ s, bl s < 2 ^ s.length
  | [] => by decide
  | b :: r => by
    have := bl_lt r
    show 2 * bl r + (if b = true then 1 else 0) < 2 ^ (r.length + 1)
    rw [Nat.pow_succ]
    split <;> omega
theorem bl_hi {s : List Bool} (h : s.length < 40) {i : Nat} (hi : 40 ≤ i) : (bl s).testBit i = false := Nat.testBit_lt_two_pow (Nat.lt_of_lt_of_le (bl_lt s) (Nat.pow_le_pow_right (by decide) (by omega)))
theorem lb_01 (b : Bool) {i : Nat} (hi : i < 64) : lb (lN (if b = true then 1 else 0)) i = (b && decide (i = 0)) := by
  rw [lb_N hi]
  cases b
  · simp
  · have := lb_1 i hi
    have e : (1 : Int64) = lN 1 := rfl
    rw [e, lb_N hi] at this
    simpa using this
theorem L_new (s : List Bool) : lN (bl s) &&& 1 = lN (if s.headD false = true then 1 else 0) := by
  apply lb_ext
  intro i hi
  rw [lb_and, lb_N hi, lb_1 i hi, lb_01 _ hi]
  cases i with
  | zero => cases s with
    | nil => rfl
    | cons b r => rw [bl_0]; rfl
  | succ i => simp
theorem L_not (b : Bool) (r : List Bool) : lN (bl (b :: r)) ^^^ 1 = lN (bl ((!b) :: r)) := by
  apply lb_ext
  intro i hi
  rw [lb_xor, lb_N hi, lb_1 i hi, lb_N hi]
  cases i with
  | zero => rw [bl_0, bl_0]; cases b <;> rfl
  | succ i => rw [bl_s, bl_s]; simp
theorem L_up {b : Bool} {s : List Bool} (h : s.length < 39) {i : Nat} (hi : i < 64) : lb (lN (bl (b :: s)) >>> ((nI 1).toInt64 &&& 63)) i = (bl s).testBit i := by
  have hl : (b :: s).length < 40 := by show s.length + 1 < 40; omega
  rw [lb_shr _ hi]
  split
  · rename_i h1
    rw [lb_N h1, Nat.add_comm, bl_s]
  · rw [lb_N (by decide), bl_hi hl (by decide), bl_hi (show s.length < 40 by omega) (by omega)]
theorem L_and (b a : Bool) {r : List Bool} (h : r.length < 38) : (lN (bl (b :: a :: r)) >>> ((nI 1).toInt64 &&& 63)) &&& (lN (if b = true then 1 else 0) ||| -2) = lN (bl ((a && b) :: r)) := by
  apply lb_ext
  intro i hi
  rw [lb_and, L_up (show (a :: r).length < 39 by show r.length + 1 < 39; omega) hi, lb_or, lb_01 _ hi, lb_m2 i hi, lb_N hi]
  cases i with
  | zero => rw [bl_0, bl_0]; simp
  | succ i => rw [bl_s, bl_s]; simp
theorem L_or (b a : Bool) {r : List Bool} (h : r.length < 38) : (lN (bl (b :: a :: r)) >>> ((nI 1).toInt64 &&& 63)) ||| lN (if b = true then 1 else 0) = lN (bl ((a || b) :: r)) := by
  apply lb_ext
  intro i hi
  rw [lb_or, L_up (show (a :: r).length < 39 by show r.length + 1 < 39; omega) hi, lb_01 _ hi, lb_N hi]
  cases i with
  | zero => rw [bl_0, bl_0]; simp
  | succ i => rw [bl_s, bl_s]; simp
theorem L_push (t : Bool) (s : List Bool) : (lN (bl s) <<< ((nI 1).toInt64 &&& 63)) ||| (nI (if t = true then 1 else 0)).toInt64 = lN (bl (t :: s)) := by
  have e : (nI (if t = true then 1 else 0)).toInt64 = lN (if t = true then 1 else 0) := by cases t <;> decide
  rw [e]
  apply lb_ext
  intro i hi
  rw [lb_or, lb_shl _ hi, lb_01 _ hi, lb_N hi]
  cases i with
  | zero => rw [bl_0]; simp
  | succ i => rw [bl_s, Nat.add_sub_cancel, lb_N (by omega)]; simp
theorem L_end (b : Bool) : lg_cmp (lN (if b = true then 1 else 0)) 1 = 0 ↔ b = true := by
  rw [x_cmp0]; cases b <;> decide
/-- a town's structure, its clauses -/
def TH (K : Nat × v_TY) (R : Nat → Nat → Option Nat) (t : Nat) : Prop := v_is K t 7 0 ∧ (v_is K (t + 1) 13 100 ∧ v_is K (t + 2) 14 10 ∧ v_is K (t + 3) 14 10 ∧ v_is K (t + 4) 14 10 ∧ v_is K (t + 5) 14 100) ∧ (R t 1 = some (t + 1) ∧ R t 4 = some (t + 2) ∧ R t 5 = some (t + 3) ∧ R t 6 = some (t + 4) ∧ R t 7 = some (t + 5)) ∧ (t = 31 ∨ 91 ≤ t)
def c_tok (k : Nat) : Int32 := match k with
  | 0 => -1
  | 1 => -2
  | 2 => -3
  | t + 3 => nI t
/-- the clause of number c -/
def TCc (I : Nat → Nat → Int32) (t c : Nat) (q : Nat × Nat × List Nat) : Prop := I (t + 2) c = nI q.1 ∧ I (t + 3) c = nI q.2.1 ∧ ∃ s : Nat, (c = 0 → s = 0) ∧ (∀ c', c = c' + 1 → I (t + 4) c' = nI s) ∧ I (t + 4) c = nI (s + q.2.2.length) ∧ s + q.2.2.length ≤ 100 ∧ ∀ (j k : Nat), q.2.2[j]? = some k → I (t + 5) (s + j) = c_tok k
def TC (I : Nat → Nat → Int32) (t : Nat) (p : CLS) : Prop := w_okp p ∧ I t 3 = nI p.length ∧ ∀ (c : Nat) (q : Nat × Nat × List Nat), p[c]? = some q → TCc I t c q
def TN (K : Nat × v_TY) (I : Nat → Nat → Int32) (R : Nat → Nat → Option Nat) (r : Option Nat) (p : CLS) : Prop := (r = none ∧ p = []) ∨ ∃ t, r = some t ∧ TH K R t ∧ TC I t p
def cF (h : Nat) (I I' : Nat → Nat → Int32) : Prop := ∀ a z, a ≠ h + 9 → I' a z = I a z
theorem TC_o {I I' : Nat → Nat → Int32} {t : Nat} {p : CLS} (h : TC I t p) (e : ∀ a z, t ≤ a → a ≤ t + 5 → I' a z = I a z) : TC I' t p := by
  refine ⟨h.1, (e _ _ (by omega) (by omega)).trans h.2.1, fun c q hc => ?_⟩
  obtain ⟨h1, h2, s, h3, h4, h5, h6, h7⟩ := h.2.2 c q hc
  exact ⟨(e _ _ (by omega) (by omega)).trans h1, (e _ _ (by omega) (by omega)).trans h2, s, h3, fun c' hc' => (e _ _ (by omega) (by omega)).trans (h4 c' hc'), (e _ _ (by omega) (by omega)).trans h5, h6, fun j k hk => (e _ _ (by omega) (by omega)).trans (h7 j k hk)⟩
theorem TN_F {K : Nat × v_TY} {I I' : Nat → Nat → Int32} {R : Nat → Nat → Option Nat} {r : Option Nat} {p : CLS} {h : Nat} (hT : TN K I R r p) (hh : v_3 h) (e : cF h I I') : TN K I' R r p := hT.elim Or.inl (fun ⟨t, h1, h2, h3⟩ => Or.inr ⟨t, h1, h2, TC_o h3 (fun a z l1 l2 => e a z (by have := h2.2.2.2; rcases hh with rfl | rfl | rfl <;> omega))⟩)
abbrev rm_X7_testHolds : Room := { frames := 0, cells := 0, slots := 0, locals := 0 }
set_option maxRecDepth 20000 in
theorem c_X7_testHolds (G : v_G) (l : Launch) {K : Nat × v_TY} {I : Nat → Nat → Int32} {J : Nat → Nat → Int64} {R : Nat → Nat → Option Nat} {t : Nat} {a : Nat} {fv : Nat → Nat} (ha : v_is K a 14 6) (hf : ∀ f, f < 6 → I a f = nI (fv f) ∧ fv f < 1000) (ht : t < 1800) : v_M G l yX7_testHolds cX7_testHolds 6 (some .boolean) rm_X7_testHolds [.int (nI t), .ref a] (K, I, J, R) (v_Qi G (fun (x : Int32) (M' : v_MM) => x = v_p (w_test t fv = true) ∧ M' = (K, I, J, R))) := by
  refine v_of [some (.int (nI t)), some (.ref a), none, none, none, none] (by decide) (Nat.le_of_ble_eq_true rfl) (Nat.le_of_ble_eq_true rfl) rfl ?_
  refine v_iload_n (pc := 0) dX7_testHolds_0 rfl rfl ?_
  refine v_bipush (pc := 1) (v := nI 100) dX7_testHolds_1 (by decide) ?_
  refine v_iremN (pc := 3) (by omega) (by omega) (by omega) dX7_testHolds_3 ?_
  refine v_istore_n (pc := 4) dX7_testHolds_4 rfl (by decide) rfl ?_
  refine v_iload_n (pc := 5) dX7_testHolds_5 rfl rfl ?_
  refine v_bipush (pc := 6) (v := nI 100) dX7_testHolds_6 (by decide) ?_
  refine v_idivN (pc := 8) (by omega) (by omega) (by omega) dX7_testHolds_8 ?_
  refine v_iconst (pc := 9) (v := nI 3) dX7_testHolds_9 (by decide) ?_
  refine v_iremN (pc := 10) (by omega) (by omega) (by omega) dX7_testHolds_10 ?_
  refine v_istore_n (pc := 11) dX7_testHolds_11 rfl (by decide) rfl ?_
  refine v_iload_n (pc := 12) dX7_testHolds_12 rfl rfl ?_
  refine v_bipush (pc := 13) (v := nI 100) dX7_testHolds_13 (by decide) ?_
  refine v_idivN (pc := 15) (by omega) (by omega) (by omega) dX7_testHolds_15 ?_
  refine v_iconst (pc := 16) (v := nI 3) dX7_testHolds_16 (by decide) ?_
  refine v_idivN (pc := 17) (by omega) (by omega) (by omega) dX7_testHolds_17 ?_
  refine v_istore (pc := 18) dX7_testHolds_18 (by decide) rfl ?_
  have e3 : t / 100 / 3 = t / 300 := Nat.div_div_eq_div_mul t 100 3
  have hlt : t / 100 / 3 < 6 := by omega
  have hfv := (hf (t / 100 / 3) hlt).2
  refine v_iload (pc := 20) dX7_testHolds_20 rfl ?_
  refine v_if_ltN (pc := 22) (tgt := 32) (by omega) dX7_testHolds_22 (by decide) ?_
  refine v_iload (pc := 25) dX7_testHolds_25 rfl ?_
  refine v_aload_n (pc := 27) dX7_testHolds_27 rfl rfl ?_
  refine v_alen (pc := 28) (v := (nI 6)) dX7_testHolds_28 ha (by decide) rfl ?_
  refine v_icmp_ltN (pc := 29) (tgt := 34) ⟨by omega, by omega⟩ dX7_testHolds_29 (by decide) (fun c29 => ?_) (fun c29 => ?_)
  · refine v_aload_n (pc := 34) dX7_testHolds_34 rfl rfl ?_
    refine v_iload (pc := 35) dX7_testHolds_35 rfl ?_
    refine v_ialoadN (pc := 37) dX7_testHolds_37 ha ⟨by omega, by omega⟩ ((hf _ hlt).1) ?_
    refine v_istore (pc := 38) dX7_testHolds_38 (by decide) rfl ?_
    refine v_iload_n (pc := 40) dX7_testHolds_40 rfl rfl ?_
    refine v_if_neN (pc := 41) (tgt := 56) (by omega) dX7_testHolds_41 (by decide) (fun c41 => ?_) (fun c41 => ?_)
    · refine v_iload_n (pc := 56) dX7_testHolds_56 rfl rfl ?_
      refine v_iconst (pc := 57) (v := nI 1) dX7_testHolds_57 (by decide) ?_
      refine v_icmp_neN (pc := 58) (tgt := 75) ⟨by omega, by omega⟩ dX7_testHolds_58 (by decide) (fun c58 => ?_) (fun c58 => ?_)
      · refine v_iload (pc := 75) dX7_testHolds_75 rfl ?_
        refine v_iload_n (pc := 77) dX7_testHolds_77 rfl rfl ?_
        refine v_icmp_leN (pc := 78) (tgt := 85) ⟨by omega, by omega⟩ dX7_testHolds_78 (by decide) (fun c78 => ?_) (fun c78 => ?_)
        · refine v_iconst (pc := 85) (v := nI 0) dX7_testHolds_85 (by decide) ?_
          exact v_iret (pc := 86) dX7_testHolds_86 rfl rfl (Nat.le_of_ble_eq_true rfl) (Nat.le_of_ble_eq_true rfl) ⟨by unfold w_test; rw [← e3]; first | (rw [if_pos c41]; first | exact v_pz (fun q => absurd (of_decide_eq_true q) (by omega)) | exact v_po (decide_eq_true (by omega))) | (rw [if_neg c41, if_pos c58]; first | exact v_pz (fun q => absurd (of_decide_eq_true q) (by omega)) | exact v_po (decide_eq_true (by omega))) | (rw [if_neg c41, if_neg c58]; first | exact v_pz (fun q => absurd (of_decide_eq_true q) (by omega)) | exact v_po (decide_eq_true (by omega))), rfl⟩
        · refine v_iconst (pc := 81) (v := nI 1) dX7_testHolds_81 (by decide) ?_
          refine v_goto (pc := 82) (tgt := 86) dX7_testHolds_82 (by decide) ?_
          exact v_iret (pc := 86) dX7_testHolds_86 rfl rfl (Nat.le_of_ble_eq_true rfl) (Nat.le_of_ble_eq_true rfl) ⟨by unfold w_test; rw [← e3]; first | (rw [if_pos c41]; first | exact v_pz (fun q => absurd (of_decide_eq_true q) (by omega)) | exact v_po (decide_eq_true (by omega))) | (rw [if_neg c41, if_pos c58]; first | exact v_pz (fun q => absurd (of_decide_eq_true q) (by omega)) | exact v_po (decide_eq_true (by omega))) | (rw [if_neg c41, if_neg c58]; first | exact v_pz (fun q => absurd (of_decide_eq_true q) (by omega)) | exact v_po (decide_eq_true (by omega))), rfl⟩
      · refine v_iload (pc := 61) dX7_testHolds_61 rfl ?_
        refine v_iload_n (pc := 63) dX7_testHolds_63 rfl rfl ?_
        refine v_icmp_neN (pc := 64) (tgt := 71) ⟨by omega, by omega⟩ dX7_testHolds_64 (by decide) (fun c64 => ?_) (fun c64 => ?_)
        · refine v_iconst (pc := 71) (v := nI 0) dX7_testHolds_71 (by decide) ?_
          refine v_goto (pc := 72) (tgt := 86) dX7_testHolds_72 (by decide) ?_
          exact v_iret (pc := 86) dX7_testHolds_86 rfl rfl (Nat.le_of_ble_eq_true rfl) (Nat.le_of_ble_eq_true rfl) ⟨by unfold w_test; rw [← e3]; first | (rw [if_pos c41]; first | exact v_pz (fun q => absurd (of_decide_eq_true q) (by omega)) | exact v_po (decide_eq_true (by omega))) | (rw [if_neg c41, if_pos c58]; first | exact v_pz (fun q => absurd (of_decide_eq_true q) (by omega)) | exact v_po (decide_eq_true (by omega))) | (rw [if_neg c41, if_neg c58]; first | exact v_pz (fun q => absurd (of_decide_eq_true q) (by omega)) | exact v_po (decide_eq_true (by omega))), rfl⟩
        · refine v_iconst (pc := 67) (v := nI 1) dX7_testHolds_67 (by decide) ?_
          refine v_goto (pc := 68) (tgt := 86) dX7_testHolds_68 (by decide) ?_
          exact v_iret (pc := 86) dX7_testHolds_86 rfl rfl (Nat.le_of_ble_eq_true rfl) (Nat.le_of_ble_eq_true rfl) ⟨by unfold w_test; rw [← e3]; first | (rw [if_pos c41]; first | exact v_pz (fun q => absurd (of_decide_eq_true q) (by omega)) | exact v_po (decide_eq_true (by omega))) | (rw [if_neg c41, if_pos c58]; first | exact v_pz (fun q => absurd (of_decide_eq_true q) (by omega)) | exact v_po (decide_eq_true (by omega))) | (rw [if_neg c41, if_neg c58]; first | exact v_pz (fun q => absurd (of_decide_eq_true q) (by omega)) | exact v_po (decide_eq_true (by omega))), rfl⟩
    · refine v_iload (pc := 44) dX7_testHolds_44 rfl ?_
      refine v_iload_n (pc := 46) dX7_testHolds_46 rfl rfl ?_
      refine v_icmp_geN (pc := 47) (tgt := 54) ⟨by omega, by omega⟩ dX7_testHolds_47 (by decide) (fun c47 => ?_) (fun c47 => ?_)
      · refine v_iconst (pc := 54) (v := nI 0) dX7_testHolds_54 (by decide) ?_
        exact v_iret (pc := 55) dX7_testHolds_55 rfl rfl (Nat.le_of_ble_eq_true rfl) (Nat.le_of_ble_eq_true rfl) ⟨by unfold w_test; rw [← e3]; first | (rw [if_pos c41]; first | exact v_pz (fun q => absurd (of_decide_eq_true q) (by omega)) | exact v_po (decide_eq_true (by omega))) | (rw [if_neg c41, if_pos c58]; first | exact v_pz (fun q => absurd (of_decide_eq_true q) (by omega)) | exact v_po (decide_eq_true (by omega))) | (rw [if_neg c41, if_neg c58]; first | exact v_pz (fun q => absurd (of_decide_eq_true q) (by omega)) | exact v_po (decide_eq_true (by omega))), rfl⟩
      · refine v_iconst (pc := 50) (v := nI 1) dX7_testHolds_50 (by decide) ?_
        refine v_goto (pc := 51) (tgt := 55) dX7_testHolds_51 (by decide) ?_
        exact v_iret (pc := 55) dX7_testHolds_55 rfl rfl (Nat.le_of_ble_eq_true rfl) (Nat.le_of_ble_eq_true rfl) ⟨by unfold w_test; rw [← e3]; first | (rw [if_pos c41]; first | exact v_pz (fun q => absurd (of_decide_eq_true q) (by omega)) | exact v_po (decide_eq_true (by omega))) | (rw [if_neg c41, if_pos c58]; first | exact v_pz (fun q => absurd (of_decide_eq_true q) (by omega)) | exact v_po (decide_eq_true (by omega))) | (rw [if_neg c41, if_neg c58]; first | exact v_pz (fun q => absurd (of_decide_eq_true q) (by omega)) | exact v_po (decide_eq_true (by omega))), rfl⟩
  · exact absurd hlt (Nat.not_lt.mpr c29)
abbrev rm_X7_holds : Room := { frames := 1, cells := 0, slots := 0, locals := 25 }
set_option maxRecDepth 20000 in
theorem c_X7_holds (G : v_G) (l : Launch) {K : Nat × v_TY} {I : Nat → Nat → Int32} {J : Nat → Nat → Int64} {R : Nat → Nat → Option Nat} {t c : Nat} {q : Nat × Nat × List Nat} (hT : TH K R t) {a : Nat} {fv : Nat → Nat} (ha : v_is K a 14 6) (hf : ∀ f, f < 6 → I a f = nI (fv f) ∧ fv f < 1000) (hc : c < 10) (hq : TCc I t c q) (hd : w_deps q.2.2 0 = some 1) : v_M G l yX7_holds cX7_holds 8 (some .boolean) rm_X7_holds [.ref t, .int (nI c), .ref a] (K, I, J, R) (v_Qi G (fun (x : Int32) (M' : v_MM) => x = v_p (w_holds fv q.2.2 = true) ∧ M' = (K, I, J, R))) := by
  refine v_of [some (.ref t), some (.int (nI c)), some (.ref a), none, none, none, none, none] (by decide) (Nat.le_of_ble_eq_true rfl) (Nat.le_of_ble_eq_true rfl) rfl ?_
  obtain ⟨hq1, hq2, s, hs0, hs1, hs2, hs3, hs4⟩ := hq
  refine v_lconst (pc := 0) (v := 0) dX7_holds_0 (by decide) ?_
  refine v_lstore_n (pc := 1) dX7_holds_1 rfl (by decide) rfl ?_
  refine v_iload_n (pc := 2) dX7_holds_2 rfl rfl ?_
  refine v_if_neN (pc := 3) (tgt := 10) (by omega) dX7_holds_3 (by decide) (fun c3 => ?_) (fun c3 => ?_)
  · refine v_aload_n (pc := 10) dX7_holds_10 rfl rfl ?_
    refine v_getH (pc := 11) fg_X7_22_7 dX7_holds_11 hT.1 hT.2.2.1.2.2.2.1 ?_
    refine v_iload_n (pc := 14) dX7_holds_14 rfl rfl ?_
    refine v_iconst (pc := 15) (v := nI 1) dX7_holds_15 (by decide) ?_
    refine v_isubN (pc := 16) (by omega) dX7_holds_16 ?_
    refine v_ialoadN (pc := 17) dX7_holds_17 hT.2.1.2.2.2.1 ⟨by omega, by omega⟩ (hs1 (c - 1) (by omega)) ?_
    have key : ∀ (rest : List Nat) (j : Nat) (st : List Bool) (z6 : Option Value), j + rest.length = q.2.2.length → q.2.2.drop j = rest → w_deps rest st.length = some 1 → st.length < 31 → (w_run fv rest st).headD false = w_holds fv q.2.2 → v_V G l yX7_holds cX7_holds 8 (some .boolean) rm_X7_holds (v_Qi G (fun (x : Int32) (M' : v_MM) => x = v_p (w_holds fv q.2.2 = true) ∧ M' = (K, I, J, R))) 0 0 20 [some (.ref t), some (.int (nI c)), some (.ref a), some (.long (lN (bl st))), none, some (.int (nI (s + j))), z6, none] [] (K, I, J, R) := by
      intro rest
      induction rest with
      | nil =>
        intro j st z6 hj hdr hdp hst hrun
        refine v_iload (pc := 20) dX7_holds_20 rfl ?_
        refine v_aload_n (pc := 22) dX7_holds_22 rfl rfl ?_
        refine v_getH (pc := 23) fg_X7_22_7 dX7_holds_23 hT.1 hT.2.2.1.2.2.2.1 ?_
        refine v_iload_n (pc := 26) dX7_holds_26 rfl rfl ?_
        refine v_ialoadN (pc := 27) dX7_holds_27 hT.2.1.2.2.2.1 ⟨by omega, by omega⟩ hs2 ?_
        refine v_icmp_geN (pc := 28) (tgt := 125) ⟨by omega, by omega⟩ dX7_holds_28 (by decide) (fun c28 => ?_) (fun c28 => ?_)
        · refine v_lload_n (pc := 125) dX7_holds_125 rfl rfl ?_
          refine v_lconst (pc := 126) (v := 1) dX7_holds_126 (by decide) ?_
          refine v_land (pc := 127) dX7_holds_127 ?_
          refine v_topl (L_new st) ?_
          refine v_lconst (pc := 128) (v := 1) dX7_holds_128 (by decide) ?_
          refine v_lcmp (pc := 129) dX7_holds_129 ?_
          refine v_if_ne (pc := 130) (tgt := 137) dX7_holds_130 (by decide) (fun c130 => ?_) (fun c130 => ?_)
          · refine v_iconst (pc := 137) (v := nI 0) dX7_holds_137 (by decide) ?_
            exact v_iret (pc := 138) dX7_holds_138 rfl rfl (Nat.le_of_ble_eq_true rfl) (Nat.le_of_ble_eq_true rfl) ⟨by have e : st.headD false = w_holds fv q.2.2 := hrun; rw [← e]; first | exact v_po ((L_end _).mp c130) | exact v_pz (fun z => c130 ((L_end _).mpr z)), rfl⟩
          · refine v_iconst (pc := 133) (v := nI 1) dX7_holds_133 (by decide) ?_
            refine v_goto (pc := 134) (tgt := 138) dX7_holds_134 (by decide) ?_
            exact v_iret (pc := 138) dX7_holds_138 rfl rfl (Nat.le_of_ble_eq_true rfl) (Nat.le_of_ble_eq_true rfl) ⟨by have e : st.headD false = w_holds fv q.2.2 := hrun; rw [← e]; first | exact v_po ((L_end _).mp c130) | exact v_pz (fun z => c130 ((L_end _).mpr z)), rfl⟩
        · exact absurd c28 (by have : ([] : List Nat).length = 0 := rfl; omega)
      | cons k rest ih =>
        intro j st z6 hj hdr hdp hst hrun
        obtain ⟨d, hd1, hd2⟩ : ∃ d, w_dep k st.length = some d ∧ w_deps rest d = some 1 := by
          have e : (w_dep k st.length).bind (w_deps rest) = some 1 := hdp
          cases e1 : w_dep k st.length with
          | none => rw [e1] at e; cases e
          | some d => rw [e1] at e; exact ⟨d, rfl, e⟩
        have hlen : (w_step fv k st).length = d := w_deps_len hd1 rfl
        have hd31 := w_dep_lt hd1 hst
        have hk : q.2.2[j]? = some k := by
          have e := congrArg (fun z => z[0]?) hdr
          simpa [List.getElem?_drop] using e
        have hdr2 : q.2.2.drop (j + 1) = rest := by rw [← List.drop_drop, hdr]; rfl
        have goon := fun z6 => ih (j + 1) (w_step fv k st) z6 (by have : (k :: rest).length = rest.length + 1 := rfl; omega) hdr2 (by rw [hlen]; exact hd2) (by omega) hrun
        have hjl : j < q.2.2.length := (List.getElem?_eq_some_iff.mp hk).1
        refine v_iload (pc := 20) dX7_holds_20 rfl ?_
        refine v_aload_n (pc := 22) dX7_holds_22 rfl rfl ?_
        refine v_getH (pc := 23) fg_X7_22_7 dX7_holds_23 hT.1 hT.2.2.1.2.2.2.1 ?_
        refine v_iload_n (pc := 26) dX7_holds_26 rfl rfl ?_
        refine v_ialoadN (pc := 27) dX7_holds_27 hT.2.1.2.2.2.1 ⟨by omega, by omega⟩ hs2 ?_
        refine v_icmp_geN (pc := 28) (tgt := 125) ⟨by omega, by omega⟩ dX7_holds_28 (by decide) (fun c28 => ?_) (fun c28 => ?_)
        · exact absurd c28 (by omega)
        · refine v_lload_n (pc := 31) dX7_holds_31 rfl rfl ?_
          refine v_lconst (pc := 32) (v := 1) dX7_holds_32 (by decide) ?_
          refine v_land (pc := 33) dX7_holds_33 ?_
          refine v_topl (L_new st) ?_
          refine v_lstore (pc := 34) dX7_holds_34 (by decide) rfl ?_
          refine v_aload_n (pc := 36) dX7_holds_36 rfl rfl ?_
          refine v_getH (pc := 37) fg_X7_25_7 dX7_holds_37 hT.1 hT.2.2.1.2.2.2.2 ?_
          refine v_iload (pc := 40) dX7_holds_40 rfl ?_
          refine v_ialoadN (pc := 42) dX7_holds_42 hT.2.1.2.2.2.2 ⟨by omega, by omega⟩ (hs4 j k hk) ?_
          rcases tok_cases k with rfl | rfl | rfl | ⟨tt, rfl⟩
          · obtain ⟨b, r, rfl⟩ := dep_0 hd1
            refine v_tableIn (pc := 43) (tgt := 68) dX7_holds_43 (by decide) (by decide) rfl (by decide) ?_
            refine v_lload_n (pc := 68) dX7_holds_68 rfl rfl ?_
            refine v_lconst (pc := 69) (v := 1) dX7_holds_69 (by decide) ?_
            refine v_lxor (pc := 70) dX7_holds_70 ?_
            refine v_topl (L_not b r) ?_
            refine v_lstore_n (pc := 71) dX7_holds_71 rfl (by decide) rfl ?_
            refine v_goto (pc := 72) (tgt := 119) dX7_holds_72 (by decide) ?_
            refine v_iincN (pc := 119) (b := 1) dX7_holds_119 rfl (by decide) (by decide) rfl ?_
            refine v_goto (pc := 122) (tgt := 20) dX7_holds_122 (by decide) ?_
            exact goon _
          · obtain ⟨b, a2, r, rfl⟩ := dep_1 hd1
            have hr38 : r.length < 38 := by have : (b :: a2 :: r).length = r.length + 1 + 1 := rfl; omega
            refine v_tableIn (pc := 43) (tgt := 75) dX7_holds_43 (by decide) (by decide) rfl (by decide) ?_
            refine v_lload_n (pc := 75) dX7_holds_75 rfl rfl ?_
            refine v_iconst (pc := 76) (v := nI 1) dX7_holds_76 (by decide) ?_
            refine v_lshr (pc := 77) dX7_holds_77 rfl ?_
            refine v_lload (pc := 78) dX7_holds_78 rfl ?_
            refine v_ldc2 (pc := 80) ld_X7_113 dX7_holds_80 ?_
            refine v_lor (pc := 83) dX7_holds_83 ?_
            refine v_land (pc := 84) dX7_holds_84 ?_
            refine v_topl (L_and b a2 hr38) ?_
            refine v_lstore_n (pc := 85) dX7_holds_85 rfl (by decide) rfl ?_
            refine v_goto (pc := 86) (tgt := 119) dX7_holds_86 (by decide) ?_
            refine v_iincN (pc := 119) (b := 1) dX7_holds_119 rfl (by decide) (by decide) rfl ?_
            refine v_goto (pc := 122) (tgt := 20) dX7_holds_122 (by decide) ?_
            exact goon _
          · obtain ⟨b, a2, r, rfl⟩ := dep_2 hd1
            have hr38 : r.length < 38 := by have : (b :: a2 :: r).length = r.length + 1 + 1 := rfl; omega
            refine v_tableIn (pc := 43) (tgt := 89) dX7_holds_43 (by decide) (by decide) rfl (by decide) ?_
            refine v_lload_n (pc := 89) dX7_holds_89 rfl rfl ?_
            refine v_iconst (pc := 90) (v := nI 1) dX7_holds_90 (by decide) ?_
            refine v_lshr (pc := 91) dX7_holds_91 rfl ?_
            refine v_lload (pc := 92) dX7_holds_92 rfl ?_
            refine v_lor (pc := 94) dX7_holds_94 ?_
            refine v_topl (L_or b a2 hr38) ?_
            refine v_lstore_n (pc := 95) dX7_holds_95 rfl (by decide) rfl ?_
            refine v_goto (pc := 96) (tgt := 119) dX7_holds_96 (by decide) ?_
            refine v_iincN (pc := 119) (b := 1) dX7_holds_119 rfl (by decide) (by decide) rfl ?_
            refine v_goto (pc := 122) (tgt := 20) dX7_holds_122 (by decide) ?_
            exact goon _
          · refine v_tableOut (pc := 43) (tgt := 99) dX7_holds_43 (Or.inr (by show -1 < (nI tt).toInt; have := (dep_t hd1).1; rw [nI_toInt (by omega)]; omega)) (by decide) ?_
            refine v_lload_n (pc := 99) dX7_holds_99 rfl rfl ?_
            refine v_iconst (pc := 100) (v := nI 1) dX7_holds_100 (by decide) ?_
            refine v_lshl (pc := 101) dX7_holds_101 rfl ?_
            refine v_aload_n (pc := 102) dX7_holds_102 rfl rfl ?_
            refine v_getH (pc := 103) fg_X7_25_7 dX7_holds_103 hT.1 hT.2.2.1.2.2.2.2 ?_
            refine v_iload (pc := 106) dX7_holds_106 rfl ?_
            refine v_ialoadN (pc := 108) dX7_holds_108 hT.2.1.2.2.2.2 ⟨by omega, by omega⟩ (hs4 j (tt + 3) hk) ?_
            refine v_aload_n (pc := 109) dX7_holds_109 rfl rfl ?_
            refine v_ci (pc := 110) (v_rS (c_X7_testHolds G l ha hf (dep_t hd1).1) rfl kS_X7_115 ⟨Nat.le_of_ble_eq_true rfl, Nat.le_of_ble_eq_true rfl⟩ ⟨Nat.le_of_ble_eq_true rfl, Nat.le_of_ble_eq_true rfl⟩ dX7_holds_110 (Nat.le_of_ble_eq_true rfl)) (fun x110 M110 h110 => ?_)
            obtain ⟨rfl, rfl⟩ := h110
            refine v_ci (pc := 113) (v_rSN (c_X11_asNumber G l) rfl kSN_X7_118 ⟨Nat.le_of_ble_eq_true rfl, Nat.le_of_ble_eq_true rfl⟩ ⟨Nat.le_of_ble_eq_true rfl, Nat.le_of_ble_eq_true rfl⟩ dX7_holds_113 (Nat.le_of_ble_eq_true rfl)) (fun x113 M113 h113 => ?_)
            obtain ⟨rfl, rfl⟩ := h113
            refine v_i2l (pc := 116) dX7_holds_116 ?_
            refine v_lor (pc := 117) dX7_holds_117 ?_
            refine v_topl (L_push _ st) ?_
            refine v_lstore_n (pc := 118) dX7_holds_118 rfl (by decide) rfl ?_
            refine v_iincN (pc := 119) (b := 1) dX7_holds_119 rfl (by decide) (by decide) rfl ?_
            refine v_goto (pc := 122) (tgt := 20) dX7_holds_122 (by decide) ?_
            exact goon _
    have start := key q.2.2 0 [] none (by omega) rfl hd (by decide) rfl
    rw [Nat.add_zero] at start
    first
      | (refine v_top (z := nI s) (congrArg nI (by have := hs0; omega)) ?_; exact v_istore (pc := 18) dX7_holds_18 (by decide) rfl start)
  · refine v_iconst (pc := 6) (v := nI 0) dX7_holds_6 (by decide) ?_
    refine v_goto (pc := 7) (tgt := 18) dX7_holds_7 (by decide) ?_
    have key : ∀ (rest : List Nat) (j : Nat) (st : List Bool) (z6 : Option Value), j + rest.length = q.2.2.length → q.2.2.drop j = rest → w_deps rest st.length = some 1 → st.length < 31 → (w_run fv rest st).headD false = w_holds fv q.2.2 → v_V G l yX7_holds cX7_holds 8 (some .boolean) rm_X7_holds (v_Qi G (fun (x : Int32) (M' : v_MM) => x = v_p (w_holds fv q.2.2 = true) ∧ M' = (K, I, J, R))) 0 0 20 [some (.ref t), some (.int (nI c)), some (.ref a), some (.long (lN (bl st))), none, some (.int (nI (s + j))), z6, none] [] (K, I, J, R) := by
      intro rest
      induction rest with
      | nil =>
        intro j st z6 hj hdr hdp hst hrun
        refine v_iload (pc := 20) dX7_holds_20 rfl ?_
        refine v_aload_n (pc := 22) dX7_holds_22 rfl rfl ?_
        refine v_getH (pc := 23) fg_X7_22_7 dX7_holds_23 hT.1 hT.2.2.1.2.2.2.1 ?_
        refine v_iload_n (pc := 26) dX7_holds_26 rfl rfl ?_
        refine v_ialoadN (pc := 27) dX7_holds_27 hT.2.1.2.2.2.1 ⟨by omega, by omega⟩ hs2 ?_
        refine v_icmp_geN (pc := 28) (tgt := 125) ⟨by omega, by omega⟩ dX7_holds_28 (by decide) (fun c28 => ?_) (fun c28 => ?_)
        · refine v_lload_n (pc := 125) dX7_holds_125 rfl rfl ?_
          refine v_lconst (pc := 126) (v := 1) dX7_holds_126 (by decide) ?_
          refine v_land (pc := 127) dX7_holds_127 ?_
          refine v_topl (L_new st) ?_
          refine v_lconst (pc := 128) (v := 1) dX7_holds_128 (by decide) ?_
          refine v_lcmp (pc := 129) dX7_holds_129 ?_
          refine v_if_ne (pc := 130) (tgt := 137) dX7_holds_130 (by decide) (fun c130 => ?_) (fun c130 => ?_)
          · refine v_iconst (pc := 137) (v := nI 0) dX7_holds_137 (by decide) ?_
            exact v_iret (pc := 138) dX7_holds_138 rfl rfl (Nat.le_of_ble_eq_true rfl) (Nat.le_of_ble_eq_true rfl) ⟨by have e : st.headD false = w_holds fv q.2.2 := hrun; rw [← e]; first | exact v_po ((L_end _).mp c130) | exact v_pz (fun z => c130 ((L_end _).mpr z)), rfl⟩
          · refine v_iconst (pc := 133) (v := nI 1) dX7_holds_133 (by decide) ?_
            refine v_goto (pc := 134) (tgt := 138) dX7_holds_134 (by decide) ?_
            exact v_iret (pc := 138) dX7_holds_138 rfl rfl (Nat.le_of_ble_eq_true rfl) (Nat.le_of_ble_eq_true rfl) ⟨by have e : st.headD false = w_holds fv q.2.2 := hrun; rw [← e]; first | exact v_po ((L_end _).mp c130) | exact v_pz (fun z => c130 ((L_end _).mpr z)), rfl⟩
        · exact absurd c28 (by have : ([] : List Nat).length = 0 := rfl; omega)
      | cons k rest ih =>
        intro j st z6 hj hdr hdp hst hrun
        obtain ⟨d, hd1, hd2⟩ : ∃ d, w_dep k st.length = some d ∧ w_deps rest d = some 1 := by
          have e : (w_dep k st.length).bind (w_deps rest) = some 1 := hdp
          cases e1 : w_dep k st.length with
          | none => rw [e1] at e; cases e
          | some d => rw [e1] at e; exact ⟨d, rfl, e⟩
        have hlen : (w_step fv k st).length = d := w_deps_len hd1 rfl
        have hd31 := w_dep_lt hd1 hst
        have hk : q.2.2[j]? = some k := by
          have e := congrArg (fun z => z[0]?) hdr
          simpa [List.getElem?_drop] using e
        have hdr2 : q.2.2.drop (j + 1) = rest := by rw [← List.drop_drop, hdr]; rfl
        have goon := fun z6 => ih (j + 1) (w_step fv k st) z6 (by have : (k :: rest).length = rest.length + 1 := rfl; omega) hdr2 (by rw [hlen]; exact hd2) (by omega) hrun
        have hjl : j < q.2.2.length := (List.getElem?_eq_some_iff.mp hk).1
        refine v_iload (pc := 20) dX7_holds_20 rfl ?_
        refine v_aload_n (pc := 22) dX7_holds_22 rfl rfl ?_
        refine v_getH (pc := 23) fg_X7_22_7 dX7_holds_23 hT.1 hT.2.2.1.2.2.2.1 ?_
        refine v_iload_n (pc := 26) dX7_holds_26 rfl rfl ?_
        refine v_ialoadN (pc := 27) dX7_holds_27 hT.2.1.2.2.2.1 ⟨by omega, by omega⟩ hs2 ?_
        refine v_icmp_geN (pc := 28) (tgt := 125) ⟨by omega, by omega⟩ dX7_holds_28 (by decide) (fun c28 => ?_) (fun c28 => ?_)
        · exact absurd c28 (by omega)
        · refine v_lload_n (pc := 31) dX7_holds_31 rfl rfl ?_
          refine v_lconst (pc := 32) (v := 1) dX7_holds_32 (by decide) ?_
          refine v_land (pc := 33) dX7_holds_33 ?_
          refine v_topl (L_new st) ?_
          refine v_lstore (pc := 34) dX7_holds_34 (by decide) rfl ?_
          refine v_aload_n (pc := 36) dX7_holds_36 rfl rfl ?_
          refine v_getH (pc := 37) fg_X7_25_7 dX7_holds_37 hT.1 hT.2.2.1.2.2.2.2 ?_
          refine v_iload (pc := 40) dX7_holds_40 rfl ?_
          refine v_ialoadN (pc := 42) dX7_holds_42 hT.2.1.2.2.2.2 ⟨by omega, by omega⟩ (hs4 j k hk) ?_
          rcases tok_cases k with rfl | rfl | rfl | ⟨tt, rfl⟩
          · obtain ⟨b, r, rfl⟩ := dep_0 hd1
            refine v_tableIn (pc := 43) (tgt := 68) dX7_holds_43 (by decide) (by decide) rfl (by decide) ?_
            refine v_lload_n (pc := 68) dX7_holds_68 rfl rfl ?_
            refine v_lconst (pc := 69) (v := 1) dX7_holds_69 (by decide) ?_
            refine v_lxor (pc := 70) dX7_holds_70 ?_
            refine v_topl (L_not b r) ?_
            refine v_lstore_n (pc := 71) dX7_holds_71 rfl (by decide) rfl ?_
            refine v_goto (pc := 72) (tgt := 119) dX7_holds_72 (by decide) ?_
            refine v_iincN (pc := 119) (b := 1) dX7_holds_119 rfl (by decide) (by decide) rfl ?_
            refine v_goto (pc := 122) (tgt := 20) dX7_holds_122 (by decide) ?_
            exact goon _
          · obtain ⟨b, a2, r, rfl⟩ := dep_1 hd1
            have hr38 : r.length < 38 := by have : (b :: a2 :: r).length = r.length + 1 + 1 := rfl; omega
            refine v_tableIn (pc := 43) (tgt := 75) dX7_holds_43 (by decide) (by decide) rfl (by decide) ?_
            refine v_lload_n (pc := 75) dX7_holds_75 rfl rfl ?_
            refine v_iconst (pc := 76) (v := nI 1) dX7_holds_76 (by decide) ?_
            refine v_lshr (pc := 77) dX7_holds_77 rfl ?_
            refine v_lload (pc := 78) dX7_holds_78 rfl ?_
            refine v_ldc2 (pc := 80) ld_X7_113 dX7_holds_80 ?_
            refine v_lor (pc := 83) dX7_holds_83 ?_
            refine v_land (pc := 84) dX7_holds_84 ?_
            refine v_topl (L_and b a2 hr38) ?_
            refine v_lstore_n (pc := 85) dX7_holds_85 rfl (by decide) rfl ?_
            refine v_goto (pc := 86) (tgt := 119) dX7_holds_86 (by decide) ?_
            refine v_iincN (pc := 119) (b := 1) dX7_holds_119 rfl (by decide) (by decide) rfl ?_
            refine v_goto (pc := 122) (tgt := 20) dX7_holds_122 (by decide) ?_
            exact goon _
          · obtain ⟨b, a2, r, rfl⟩ := dep_2 hd1
            have hr38 : r.length < 38 := by have : (b :: a2 :: r).length = r.length + 1 + 1 := rfl; omega
            refine v_tableIn (pc := 43) (tgt := 89) dX7_holds_43 (by decide) (by decide) rfl (by decide) ?_
            refine v_lload_n (pc := 89) dX7_holds_89 rfl rfl ?_
            refine v_iconst (pc := 90) (v := nI 1) dX7_holds_90 (by decide) ?_
            refine v_lshr (pc := 91) dX7_holds_91 rfl ?_
            refine v_lload (pc := 92) dX7_holds_92 rfl ?_
            refine v_lor (pc := 94) dX7_holds_94 ?_
            refine v_topl (L_or b a2 hr38) ?_
            refine v_lstore_n (pc := 95) dX7_holds_95 rfl (by decide) rfl ?_
            refine v_goto (pc := 96) (tgt := 119) dX7_holds_96 (by decide) ?_
            refine v_iincN (pc := 119) (b := 1) dX7_holds_119 rfl (by decide) (by decide) rfl ?_
            refine v_goto (pc := 122) (tgt := 20) dX7_holds_122 (by decide) ?_
            exact goon _
          · refine v_tableOut (pc := 43) (tgt := 99) dX7_holds_43 (Or.inr (by show -1 < (nI tt).toInt; have := (dep_t hd1).1; rw [nI_toInt (by omega)]; omega)) (by decide) ?_
            refine v_lload_n (pc := 99) dX7_holds_99 rfl rfl ?_
            refine v_iconst (pc := 100) (v := nI 1) dX7_holds_100 (by decide) ?_
            refine v_lshl (pc := 101) dX7_holds_101 rfl ?_
            refine v_aload_n (pc := 102) dX7_holds_102 rfl rfl ?_
            refine v_getH (pc := 103) fg_X7_25_7 dX7_holds_103 hT.1 hT.2.2.1.2.2.2.2 ?_
            refine v_iload (pc := 106) dX7_holds_106 rfl ?_
            refine v_ialoadN (pc := 108) dX7_holds_108 hT.2.1.2.2.2.2 ⟨by omega, by omega⟩ (hs4 j (tt + 3) hk) ?_
            refine v_aload_n (pc := 109) dX7_holds_109 rfl rfl ?_
            refine v_ci (pc := 110) (v_rS (c_X7_testHolds G l ha hf (dep_t hd1).1) rfl kS_X7_115 ⟨Nat.le_of_ble_eq_true rfl, Nat.le_of_ble_eq_true rfl⟩ ⟨Nat.le_of_ble_eq_true rfl, Nat.le_of_ble_eq_true rfl⟩ dX7_holds_110 (Nat.le_of_ble_eq_true rfl)) (fun x110 M110 h110 => ?_)
            obtain ⟨rfl, rfl⟩ := h110
            refine v_ci (pc := 113) (v_rSN (c_X11_asNumber G l) rfl kSN_X7_118 ⟨Nat.le_of_ble_eq_true rfl, Nat.le_of_ble_eq_true rfl⟩ ⟨Nat.le_of_ble_eq_true rfl, Nat.le_of_ble_eq_true rfl⟩ dX7_holds_113 (Nat.le_of_ble_eq_true rfl)) (fun x113 M113 h113 => ?_)
            obtain ⟨rfl, rfl⟩ := h113
            refine v_i2l (pc := 116) dX7_holds_116 ?_
            refine v_lor (pc := 117) dX7_holds_117 ?_
            refine v_topl (L_push _ st) ?_
            refine v_lstore_n (pc := 118) dX7_holds_118 rfl (by decide) rfl ?_
            refine v_iincN (pc := 119) (b := 1) dX7_holds_119 rfl (by decide) (by decide) rfl ?_
            refine v_goto (pc := 122) (tgt := 20) dX7_holds_122 (by decide) ?_
            exact goon _
    have start := key q.2.2 0 [] none (by omega) rfl hd (by decide) rfl
    rw [Nat.add_zero] at start
    first
      | (refine v_top (z := nI s) (congrArg nI (by have := hs0; omega)) ?_; exact v_istore (pc := 18) dX7_holds_18 (by decide) rfl start)
