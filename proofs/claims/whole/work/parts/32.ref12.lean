/-! THE REFERENCE: tapes -/
theorem x_pos {x : Int32} (h : ¬ x < 0) : ∃ n : Nat, n < 2 ^ 31 ∧ x = nI n := by
  rw [Int32.lt_iff_toInt_lt] at h
  have h0 : (0 : Int32).toInt = 0 := rfl
  have h1 := Int32.toInt_lt x
  refine ⟨x.toInt.toNat, by omega, Int32.toInt_inj.mp ?_⟩
  rw [nI_toInt (by omega)]
  omega
abbrev TP : Type := Option Nat × Nat × (Nat → Int64)
def o_s (o : Option Nat) : Int32 := match o with
  | some s => nI s
  | none => -1
def TV (t : Nat → TP) : Prop := ∀ i, i < 6 → (t i).2.1 ≤ 60 ∧ (∀ s, (t i).1 = some s → s < 5) ∧ ((t i).1 = none → (t i).2.1 = 0) ∧ ((t i).1 = some 4 → ∀ j, (t i).2.2 j = 0 ∨ (t i).2.2 j = 1)
def MTp (I : Nat → Nat → Int32) (J : Nat → Nat → Int64) (t : Nat → TP) : Prop := ∀ i, i < 6 → I 87 i = o_s (t i).1 ∧ I 88 i = nI (t i).2.1 ∧ ∀ j, j < 60 → J 89 (60 * i + j) = (t i).2.2 j
/-- all but the tapes is as it was -/
def mT (I : Nat → Nat → Int32) (J : Nat → Nat → Int64) (I' : Nat → Nat → Int32) (J' : Nat → Nat → Int64) : Prop := (∀ a b, a ≠ 87 → a ≠ 88 → I' a b = I a b) ∧ ∀ a b, a ≠ 89 → a ≠ 90 → J' a b = J a b
theorem mT_rf {I : Nat → Nat → Int32} {J : Nat → Nat → Int64} : mT I J I J := ⟨fun _ _ _ _ => rfl, fun _ _ _ _ => rfl⟩
def w_put (t : Nat → TP) (o : Option (Nat × TP)) : Nat → TP := match o with
  | none => t
  | some (k, T) => fun i => if i = k then T else t i
def w_tape (tt ss nn : Int32) : Int32 × Option (Nat × TP) := match x_nat tt 6 with
  | none => (-1, none)
  | some t => if ss = -1 then (1, some (t, none, 0, fun _ => 0)) else match x_nat ss 5 with
    | none => (-2, none)
    | some s => match x_nat nn 61 with
      | some n => (1, some (t, some s, n, fun _ => 0))
      | none => if nn < 0 then (-14, none) else (-2, none)
/-- what a sort keeps of a number -/
def w_nar (s : Nat) (z : Int64) : Int64 := match s with
  | 0 => z.toInt32.toInt8.toInt32.toInt64
  | 1 => z.toInt32.toInt16.toInt32.toInt64
  | 2 => z.toInt32.toInt64
  | 4 => if z = 0 then 0 else 1
  | _ => z
def w_item (t : Nat → TP) (tt ii : Int32) (z : Int64) : Int32 × Option (Nat × TP) := match x_nat tt 6 with
  | none => (-1, none)
  | some k => match (t k).1 with
    | none => (-11, none)
    | some s => match x_nat ii (t k).2.1 with
      | none => (-13, none)
      | some j => (1, some (k, some s, (t k).2.1, fun q => if q = j then w_nar s z else (t k).2.2 q))
def s_read (t : Nat → TP) (tt ii : Int32) : Int64 := match x_nat tt 6 with
  | none => s_no
  | some k => match (t k).1 with
    | none => s_no
    | some _ => match x_nat ii (t k).2.1 with
      | none => s_no
      | some j => (t k).2.2 j
theorem t_in {s : Int32} : (-1 ≤ s ∧ s ≤ nI 4) ↔ s = -1 ∨ vp_in s 5 := by
  rw [vp_in_iff, Int32.le_iff_toInt_le, Int32.le_iff_toInt_le]
  have h1 : (-1 : Int32).toInt = -1 := rfl
  have h4 : (nI 4).toInt = 4 := rfl
  rw [h1, h4]
  constructor
  · rintro ⟨a, c⟩
    by_cases e : s.toInt = -1
    · exact Or.inl (Int32.toInt_inj.mp (e.trans h1.symm))
    · exact Or.inr ⟨by omega, by omega⟩
  · rintro (rfl | ⟨a, c⟩)
    · decide
    · exact ⟨by omega, by omega⟩
theorem t_cases (s : Int32) : s = -1 ∨ (∃ j : Nat, j < 5 ∧ s = nI j ∧ x_nat s 5 = some j ∧ s ≠ -1) ∨ (s ≠ -1 ∧ x_nat s 5 = none ∧ ¬ vp_in s 5) := by
  by_cases e : s = -1
  · exact Or.inl e
  · by_cases q : vp_in s 5
    · obtain ⟨j, hj, e1, e2⟩ := x_nat_i q (by decide)
      exact Or.inr (Or.inl ⟨j, hj, e1, e2, e⟩)
    · exact Or.inr (Or.inr ⟨e, x_nat_n q, q⟩)
theorem MTp_put {I : Nat → Nat → Int32} {J J' : Nat → Nat → Int64} {t : Nat → TP} (h : MTp I J t) {k : Nat} {T : TP} (hJ : ∀ i, i < 6 → i ≠ k → ∀ j, j < 60 → J' 89 (60 * i + j) = J 89 (60 * i + j)) (hk : ∀ j, j < 60 → J' 89 (60 * k + j) = T.2.2 j) :
    MTp (v_u (v_u I 87 k (o_s T.1)) 88 k (nI T.2.1)) J' (w_put t (some (k, T))) := by
  intro i hi
  by_cases e : i = k
  · subst e
    have e1 : w_put t (some (i, T)) i = T := if_pos rfl
    rw [e1]
    exact ⟨(v_u_h (by decide)).trans v_u_same, v_u_same, hk⟩
  · have e1 : w_put t (some (k, T)) i = t i := if_neg e
    rw [e1]
    exact ⟨(v_u_h (by decide)).trans ((v_u_k e).trans (h i hi).1), (v_u_k e).trans ((v_u_h (by decide)).trans (h i hi).2.1), fun j hj => (hJ i hi e j hj).trans ((h i hi).2.2 j hj)⟩
theorem mT_put {I : Nat → Nat → Int32} {J J' : Nat → Nat → Int64} {k : Nat} {x y : Int32} (hJ : ∀ a b, a ≠ 89 → a ≠ 90 → J' a b = J a b) : mT I J (v_u (v_u I 87 k x) 88 k y) J' := ⟨fun a b n1 n2 => by rw [v_u_h n2, v_u_h n1], hJ⟩
abbrev rm_X12_isTape : Room := { frames := 1, cells := 0, slots := 0, locals := 23 }
set_option maxRecDepth 20000 in
theorem c_X12_isTape (G : v_G) (l : Launch) {K : Nat × v_TY} {I : Nat → Nat → Int32} {J : Nat → Nat → Int64} {R : Nat → Nat → Option Nat} (hL : Lay K R) {tt : Int32} : v_M G l yX12_isTape cX12_isTape 2 (some .boolean) rm_X12_isTape [.ref 55, .int tt] (K, I, J, R) (v_Qi G (fun (x : Int32) (M' : v_MM) => x = v_p (vp_in tt 6) ∧ M' = (K, I, J, R))) := by
  refine v_of [some (.ref 55), some (.int tt)] (by decide) (Nat.le_of_ble_eq_true rfl) (Nat.le_of_ble_eq_true rfl) rfl ?_
  refine v_aload_n (pc := 0) dX12_isTape_0 rfl rfl ?_
  refine v_iload_n (pc := 1) dX12_isTape_1 rfl rfl ?_
  refine v_iconst (pc := 2) (v := nI 0) dX12_isTape_2 (by decide) ?_
  refine v_iconst (pc := 3) (v := nI 5) dX12_isTape_3 (by decide) ?_
  refine v_ci (pc := 4) (v_rV (c_X12_in G l hL) rfl kV_X12_197 (v_rcO (li_55 hL) rfl (by decide)) ⟨Nat.le_of_ble_eq_true rfl, Nat.le_of_ble_eq_true rfl⟩ ⟨Nat.le_of_ble_eq_true rfl, Nat.le_of_ble_eq_true rfl⟩ dX12_isTape_4 (Nat.le_of_ble_eq_true rfl)) (fun x4 M4 h4 => ?_)
  obtain ⟨rfl, rfl⟩ := h4
  exact v_iret (pc := 7) dX12_isTape_7 rfl (v_p_z rfl) (Nat.le_of_ble_eq_true rfl) (Nat.le_of_ble_eq_true rfl) ⟨v_p_c (v_in_iff (by decide)), rfl⟩
abbrev rm_X12_tape : Room := { frames := 2, cells := 0, slots := 0, locals := 44 }
set_option maxRecDepth 20000 in
theorem c_X12_tape (G : v_G) (l : Launch) {K : Nat × v_TY} {I : Nat → Nat → Int32} {J : Nat → Nat → Int64} {R : Nat → Nat → Option Nat} (hL : Lay K R) {tt ss nn : Int32} {tp : Nat → TP} (h : MTp I J tp) (hv : TV tp) : v_M G l yX12_tape cX12_tape 5 (some .int) rm_X12_tape [.ref 55, .int tt, .int ss, .int nn] (K, I, J, R) (v_Qi G (fun (x : Int32) (M' : v_MM) => x = (w_tape tt ss nn).1 ∧ ∃ I' J', M' = (K, I', J', R) ∧ MTp I' J' (w_put tp (w_tape tt ss nn).2) ∧ mT I J I' J')) := by
  refine v_of [some (.ref 55), some (.int tt), some (.int ss), some (.int nn), none] (by decide) (Nat.le_of_ble_eq_true rfl) (Nat.le_of_ble_eq_true rfl) rfl ?_
  refine v_aload_n (pc := 0) dX12_tape_0 rfl rfl ?_
  refine v_iload_n (pc := 1) dX12_tape_1 rfl rfl ?_
  refine v_ci (pc := 2) (v_rV (c_X12_isTape G l hL) rfl kV_X12_353 (v_rcO (li_55 hL) rfl (by decide)) ⟨Nat.le_of_ble_eq_true rfl, Nat.le_of_ble_eq_true rfl⟩ ⟨Nat.le_of_ble_eq_true rfl, Nat.le_of_ble_eq_true rfl⟩ dX12_tape_2 (Nat.le_of_ble_eq_true rfl)) (fun x2 M2 h2 => ?_)
  obtain ⟨rfl, rfl⟩ := h2
  refine v_if_neP (pc := 5) (tgt := 10) dX12_tape_5 (by decide) (fun c5 => ?_) (fun c5 => ?_)
  · obtain ⟨t, ht, et, e1⟩ := x_nat_i c5 (by decide)
    subst et
    have JZ0 : (fun a z => if a = 89 ∧ 60 * t ≤ z ∧ z < 60 * t + 0 then 0 else J a z) = J := by funext a z; exact if_neg (fun q => by omega)
    have loop : ∀ T : TP, w_tape (nI t) ss nn = (1, some (t, T)) → (∀ j, T.2.2 j = 0) → ∀ k, k ≤ 60 → v_V G l yX12_tape cX12_tape 5 (some .int) rm_X12_tape (v_Qi G (fun (x : Int32) (M' : v_MM) => x = (w_tape (nI t) ss nn).1 ∧ ∃ I' J', M' = (K, I', J', R) ∧ MTp I' J' (w_put tp (w_tape (nI t) ss nn).2) ∧ mT I J I' J')) 0 0 69 [some (.ref 55), some (.int (nI t)), some (.int ss), some (.int nn), some (.int (nI k))] [] (K, v_u (v_u I 87 t (o_s T.1)) 88 t (nI T.2.1), (fun a z => if a = 89 ∧ 60 * t ≤ z ∧ z < 60 * t + k then 0 else J a z), R) := by
      intro T hT hz
      refine v_down 60 (fun k hk ih => ?_)
      refine v_iload (pc := 69) dX12_tape_69 rfl ?_
      refine v_bipush (pc := 71) (v := nI 60) dX12_tape_71 (by decide) ?_
      refine v_icmp_geN (pc := 73) (tgt := 95) ⟨by omega, by omega⟩ dX12_tape_73 (by decide) (fun c73 => ?_) (fun c73 => ?_)
      · refine v_iconst (pc := 95) (v := nI 1) dX12_tape_95 (by decide) ?_
        exact v_iret (pc := 96) dX12_tape_96 rfl rfl (Nat.le_of_ble_eq_true rfl) (Nat.le_of_ble_eq_true rfl) ⟨by rw [hT]; rfl, _, _, rfl, by rw [hT]; exact MTp_put h (fun i hi hn j hj => if_neg (fun q => by omega)) (fun j hj => (if_pos ⟨rfl, by omega, by omega⟩).trans (hz j).symm), mT_put (fun a z n1 _ => if_neg (fun q => n1 q.1))⟩
      · refine v_aload_n (pc := 76) dX12_tape_76 rfl rfl ?_
        refine v_getH (pc := 77) fg_X12_190_12 dX12_tape_77 (li_55 hL) (lr_55_59 hL) ?_
        refine v_bipush (pc := 80) (v := nI 60) dX12_tape_80 (by decide) ?_
        refine v_iload_n (pc := 82) dX12_tape_82 rfl rfl ?_
        refine v_imulN (pc := 83) dX12_tape_83 ?_
        refine v_iload (pc := 84) dX12_tape_84 rfl ?_
        refine v_iaddN (pc := 86) dX12_tape_86 ?_
        refine v_lconst (pc := 87) (v := 0) dX12_tape_87 (by decide) ?_
        refine v_lastoreN (pc := 88) dX12_tape_88 (li_89 hL) ⟨by omega, by omega⟩ ?_
        refine v_iincN (pc := 89) (b := 1) dX12_tape_89 rfl (by decide) (by decide) rfl ?_
        refine v_goto (pc := 92) (tgt := 69) dX12_tape_92 (by decide) ?_
        refine v_mem ?_ (ih (k + 1) (by omega) (by omega))
        congr 2
        refine Prod.ext ?_ rfl
        funext a z
        simp only [v_u]
        by_cases h1 : a = 89
        · by_cases h2 : z = 60 * t + k
          · have h3 : 60 * t ≤ z ∧ z < 60 * t + (k + 1) := by omega
            simp [h1, h2]
          · have h3 : (z < 60 * t + (k + 1)) = (z < 60 * t + k) := propext ⟨fun q => by omega, fun q => by omega⟩
            simp [h1, h2, h3]
        · simp [h1]
    rcases t_cases ss with rfl | ⟨s, hs, rfl, e2, hm⟩ | ⟨hm, e2, e3⟩
    · have hT : w_tape (nI t) (-1) nn = (1, some (t, none, 0, fun _ => 0)) := by simp only [w_tape, e1]; rfl
      refine v_aload_n (pc := 10) dX12_tape_10 rfl rfl ?_
      refine v_iload_n (pc := 11) dX12_tape_11 rfl rfl ?_
      refine v_iconst (pc := 12) (v := -1) dX12_tape_12 (by decide) ?_
      refine v_iconst (pc := 13) (v := nI 4) dX12_tape_13 (by decide) ?_
      refine v_ci (pc := 14) (v_rV (c_X12_in G l hL) rfl kV_X12_197 (v_rcO (li_55 hL) rfl (by decide)) ⟨Nat.le_of_ble_eq_true rfl, Nat.le_of_ble_eq_true rfl⟩ ⟨Nat.le_of_ble_eq_true rfl, Nat.le_of_ble_eq_true rfl⟩ dX12_tape_14 (Nat.le_of_ble_eq_true rfl)) (fun x14 M14 h14 => ?_)
      obtain ⟨rfl, rfl⟩ := h14
      refine v_if_eqP (pc := 17) (tgt := 30) dX12_tape_17 (by decide) (fun c17 => ?_) (fun c17 => ?_)
      · exact absurd (t_in.mpr (Or.inl rfl)) c17
      · refine v_iload_n (pc := 20) dX12_tape_20 rfl rfl ?_
        refine v_if_lt (pc := 21) (tgt := 33) dX12_tape_21 (by decide) (fun c21 => ?_) (fun c21 => ?_)
        · refine v_iload_n (pc := 33) dX12_tape_33 rfl rfl ?_
          refine v_if_lt (pc := 34) (tgt := 44) dX12_tape_34 (by decide) (fun c34 => ?_) (fun c34 => ?_)
          · refine v_aload_n (pc := 44) dX12_tape_44 rfl rfl ?_
            refine v_getH (pc := 45) fg_X12_184_12 dX12_tape_45 (li_55 hL) (lr_55_57 hL) ?_
            refine v_iload_n (pc := 48) dX12_tape_48 rfl rfl ?_
            refine v_iload_n (pc := 49) dX12_tape_49 rfl rfl ?_
            refine v_iastoreN (pc := 50) dX12_tape_50 (li_87 hL) ⟨by omega, by omega⟩ ?_
            refine v_aload_n (pc := 51) dX12_tape_51 rfl rfl ?_
            refine v_getH (pc := 52) fg_X12_187_12 dX12_tape_52 (li_55 hL) (lr_55_58 hL) ?_
            refine v_iload_n (pc := 55) dX12_tape_55 rfl rfl ?_
            refine v_iload_n (pc := 56) dX12_tape_56 rfl rfl ?_
            refine v_if_ge (pc := 57) (tgt := 64) dX12_tape_57 (by decide) (fun c57 => ?_) (fun c57 => ?_)
            · exact absurd (show ¬ (0 : Int32) ≤ -1 by decide) (Classical.not_not.mpr c57)
            · refine v_iconst (pc := 60) (v := nI 0) dX12_tape_60 (by decide) ?_
              refine v_goto (pc := 61) (tgt := 65) dX12_tape_61 (by decide) ?_
              refine v_iastoreN (pc := 65) dX12_tape_65 (li_88 hL) ⟨by omega, by omega⟩ ?_
              refine v_iconst (pc := 66) (v := nI 0) dX12_tape_66 (by decide) ?_
              refine v_istore (pc := 67) dX12_tape_67 (by decide) rfl ?_
              exact v_mem (show _ = _ by rw [JZ0]; rfl) (loop (none, 0, fun _ => 0) hT (fun _ => rfl) 0 (by omega))
          · exact absurd (show (-1 : Int32) < 0 by decide) c34
        · exact absurd (show (-1 : Int32) < 0 by decide) c21
    · refine v_aload_n (pc := 10) dX12_tape_10 rfl rfl ?_
      refine v_iload_n (pc := 11) dX12_tape_11 rfl rfl ?_
      refine v_iconst (pc := 12) (v := -1) dX12_tape_12 (by decide) ?_
      refine v_iconst (pc := 13) (v := nI 4) dX12_tape_13 (by decide) ?_
      refine v_ci (pc := 14) (v_rV (c_X12_in G l hL) rfl kV_X12_197 (v_rcO (li_55 hL) rfl (by decide)) ⟨Nat.le_of_ble_eq_true rfl, Nat.le_of_ble_eq_true rfl⟩ ⟨Nat.le_of_ble_eq_true rfl, Nat.le_of_ble_eq_true rfl⟩ dX12_tape_14 (Nat.le_of_ble_eq_true rfl)) (fun x14 M14 h14 => ?_)
      obtain ⟨rfl, rfl⟩ := h14
      refine v_if_eqP (pc := 17) (tgt := 30) dX12_tape_17 (by decide) (fun c17 => ?_) (fun c17 => ?_)
      · exact absurd (t_in.mpr (Or.inr (Classical.byContradiction fun q => by rw [x_nat_n q] at e2; cases e2))) c17
      · refine v_iload_n (pc := 20) dX12_tape_20 rfl rfl ?_
        refine v_if_ltN (pc := 21) (tgt := 33) (by omega) dX12_tape_21 (by decide) ?_
        refine v_iload_n (pc := 24) dX12_tape_24 rfl rfl ?_
        refine v_bipush (pc := 25) (v := nI 60) dX12_tape_25 (by decide) ?_
        refine v_icmp_le (pc := 27) (tgt := 33) dX12_tape_27 (by decide) (fun c27 => ?_) (fun c27 => ?_)
        · refine v_iload_n (pc := 33) dX12_tape_33 rfl rfl ?_
          refine v_if_ltN (pc := 34) (tgt := 44) (by omega) dX12_tape_34 (by decide) ?_
          refine v_iload_n (pc := 37) dX12_tape_37 rfl rfl ?_
          refine v_if_ge (pc := 38) (tgt := 44) dX12_tape_38 (by decide) (fun c38 => ?_) (fun c38 => ?_)
          · obtain ⟨n, hn, rfl, e3⟩ := x_nat_i ((v_in_iff (m := 60) (by decide)).mp ⟨c38, c27⟩) (by decide)
            have hT : w_tape (nI t) (nI s) (nI n) = (1, some (t, some s, n, fun _ => 0)) := by simp only [w_tape, e1, e2, e3, if_neg hm]
            refine v_aload_n (pc := 44) dX12_tape_44 rfl rfl ?_
            refine v_getH (pc := 45) fg_X12_184_12 dX12_tape_45 (li_55 hL) (lr_55_57 hL) ?_
            refine v_iload_n (pc := 48) dX12_tape_48 rfl rfl ?_
            refine v_iload_n (pc := 49) dX12_tape_49 rfl rfl ?_
            refine v_iastoreN (pc := 50) dX12_tape_50 (li_87 hL) ⟨by omega, by omega⟩ ?_
            refine v_aload_n (pc := 51) dX12_tape_51 rfl rfl ?_
            refine v_getH (pc := 52) fg_X12_187_12 dX12_tape_52 (li_55 hL) (lr_55_58 hL) ?_
            refine v_iload_n (pc := 55) dX12_tape_55 rfl rfl ?_
            refine v_iload_n (pc := 56) dX12_tape_56 rfl rfl ?_
            refine v_if_geN (pc := 57) (tgt := 64) (by omega) dX12_tape_57 (by decide) ?_
            refine v_iload_n (pc := 64) dX12_tape_64 rfl rfl ?_
            refine v_iastoreN (pc := 65) dX12_tape_65 (li_88 hL) ⟨by omega, by omega⟩ ?_
            refine v_iconst (pc := 66) (v := nI 0) dX12_tape_66 (by decide) ?_
            refine v_istore (pc := 67) dX12_tape_67 (by decide) rfl ?_
            exact v_mem (show _ = _ by rw [JZ0]; rfl) (loop (some s, n, fun _ => 0) hT (fun _ => rfl) 0 (by omega))
          · have n0 : nn < 0 := Int32.not_le.mp c38
            have e3 : x_nat nn 61 = none := if_pos (Or.inl n0)
            have hT : w_tape (nI t) (nI s) nn = (-14, none) := by simp only [w_tape, e1, e2, e3, if_neg hm, if_pos n0]
            refine v_bipush (pc := 41) (v := -14) dX12_tape_41 (by decide) ?_
            exact v_iret (pc := 43) dX12_tape_43 rfl rfl (Nat.le_of_ble_eq_true rfl) (Nat.le_of_ble_eq_true rfl) ⟨by rw [hT], I, J, rfl, by rw [hT]; exact h, mT_rf⟩
        · have e3 : x_nat nn 61 = none := x_nat_n (fun q => c27 ((v_in_iff (m := 60) (by decide)).mpr q).2)
          have n0 : ¬ nn < 0 := fun q => c27 (by have h60 : (nI 60).toInt = 60 := rfl; have h0 : (0 : Int32).toInt = 0 := rfl; rw [Int32.lt_iff_toInt_lt] at q; rw [Int32.le_iff_toInt_le]; omega)
          have hT : w_tape (nI t) (nI s) nn = (-2, none) := by simp only [w_tape, e1, e2, e3, if_neg hm, if_neg n0]
          refine v_bipush (pc := 30) (v := -2) dX12_tape_30 (by decide) ?_
          exact v_iret (pc := 32) dX12_tape_32 rfl rfl (Nat.le_of_ble_eq_true rfl) (Nat.le_of_ble_eq_true rfl) ⟨by rw [hT], I, J, rfl, by rw [hT]; exact h, mT_rf⟩
    · have hT : w_tape (nI t) ss nn = (-2, none) := by simp only [w_tape, e1, e2, if_neg hm]
      refine v_aload_n (pc := 10) dX12_tape_10 rfl rfl ?_
      refine v_iload_n (pc := 11) dX12_tape_11 rfl rfl ?_
      refine v_iconst (pc := 12) (v := -1) dX12_tape_12 (by decide) ?_
      refine v_iconst (pc := 13) (v := nI 4) dX12_tape_13 (by decide) ?_
      refine v_ci (pc := 14) (v_rV (c_X12_in G l hL) rfl kV_X12_197 (v_rcO (li_55 hL) rfl (by decide)) ⟨Nat.le_of_ble_eq_true rfl, Nat.le_of_ble_eq_true rfl⟩ ⟨Nat.le_of_ble_eq_true rfl, Nat.le_of_ble_eq_true rfl⟩ dX12_tape_14 (Nat.le_of_ble_eq_true rfl)) (fun x14 M14 h14 => ?_)
      obtain ⟨rfl, rfl⟩ := h14
      refine v_if_eqP (pc := 17) (tgt := 30) dX12_tape_17 (by decide) (fun c17 => ?_) (fun c17 => ?_)
      · refine v_bipush (pc := 30) (v := -2) dX12_tape_30 (by decide) ?_
        exact v_iret (pc := 32) dX12_tape_32 rfl rfl (Nat.le_of_ble_eq_true rfl) (Nat.le_of_ble_eq_true rfl) ⟨by rw [hT], I, J, rfl, by rw [hT]; exact h, mT_rf⟩
      · exact absurd (t_in.mp c17) (fun q => q.elim hm e3)
  · have e1 := x_nat_n c5
    refine v_iconst (pc := 8) (v := -1) dX12_tape_8 (by decide) ?_
    exact v_iret (pc := 9) dX12_tape_9 rfl rfl (Nat.le_of_ble_eq_true rfl) (Nat.le_of_ble_eq_true rfl) ⟨by simp only [w_tape, e1], I, J, rfl, by simp only [w_tape, e1]; exact h, mT_rf⟩
