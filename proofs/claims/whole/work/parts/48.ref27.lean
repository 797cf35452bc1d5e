/-! THE REFERENCE: the whole text, a town -/
section PCS
variable {T : List Nat} {n i q : Nat} {acc : CLS} {c : Nat × Nat × List Nat}
theorem p_cs_1 (e : p_cl T i = (q, none)) : p_cs T (n + 1) i acc = (q, none) := by unfold p_cs; rw [e]; rfl
theorem p_cs_2 (e : p_cl T i = (q, some c)) (h : q = T.length) : p_cs T (n + 1) i acc = (q, some (acc ++ [c])) := by unfold p_cs; rw [e, p_b1, if_pos h]
theorem p_cs_3 (e : p_cl T i = (q, some c)) (h : q ≠ T.length) (h0 : n = 0) : p_cs T (n + 1) i acc = (q, none) := by unfold p_cs; rw [e, p_b1, if_neg h, if_pos h0]
theorem p_cs_4 (e : p_cl T i = (q, some c)) (h : q ≠ T.length) (h0 : n ≠ 0) (hc : tx T q = 59) : p_cs T (n + 1) i acc = p_cs T n (q + 1) (acc ++ [c]) := by
  show p_b (p_cl T i) _ = _
  rw [e, p_b1, if_neg h, if_neg h0, if_pos hc]
theorem p_cs_5 (e : p_cl T i = (q, some c)) (h : q ≠ T.length) (hc : tx T q ≠ 59) : p_cs T (n + 1) i acc = (q, none) := by
  show p_b (p_cl T i) _ = _
  rw [e, p_b1, if_neg h, if_neg hc]
  split <;> rfl
end PCS
def CX (I : Nat → Nat → Int32) (f s0 : Nat) (acc : CLS) : Prop := ∀ (c : Nat) (q : Nat × Nat × List Nat), acc[c]? = some q → I 63 (10 * f + c) = nI q.1 ∧ I 64 (10 * f + c) = nI q.2.1 ∧ ∃ s : Nat, I 65 (10 * f + c) = nI s ∧ I 66 (10 * f + c) = nI (s + q.2.2.length) ∧ s + q.2.2.length ≤ s0 ∧ ∀ (j k : Nat), q.2.2[j]? = some k → I 67 (s + j) = m_tok k
theorem CX_s {I I' : Nat → Nat → Int32} {f s0 : Nat} {acc : CLS} {q : Nat × Nat × List Nat} (h : CX I f s0 acc) (j : mC (10 * f + acc.length) s0 I I') (w : I' 63 (10 * f + acc.length) = nI q.1 ∧ I' 64 (10 * f + acc.length) = nI q.2.1 ∧ CE I' (10 * f + acc.length) s0 q.2.2) : CX I' f (s0 + q.2.2.length) (acc ++ [q]) := by
  intro c r hc
  rcases Nat.lt_trichotomy c acc.length with z | z | z
  · rw [List.getElem?_append_left z] at hc
    obtain ⟨h1, h2, s, h3, h4, h5, h6⟩ := h c r hc
    refine ⟨(j _ _ (by simp [m_py]) (by simp; omega)).trans h1, (j _ _ (by simp [m_py]) (by simp; omega)).trans h2, s, (j _ _ (by simp [m_py]; omega) (by simp)).trans h3, (j _ _ (by simp [m_py]; omega) (by simp)).trans h4, by omega, fun a k hk => ?_⟩
    have := (List.getElem?_eq_some_iff.mp hk).1
    exact (j _ _ (by simp [m_py]; omega) (by simp)).trans (h6 a k hk)
  · subst z
    rw [List.getElem?_append_right (Nat.le_refl _), Nat.sub_self] at hc
    cases hc
    exact ⟨w.1, w.2.1, s0, w.2.2.1, w.2.2.2.1, Nat.le_refl _, w.2.2.2.2.2⟩
  · rw [List.getElem?_append_right (Nat.le_of_lt z), List.getElem?_eq_none (by show 1 ≤ _; omega)] at hc
    cases hc
theorem CX_o {I I' : Nat → Nat → Int32} {f s0 : Nat} {acc : CLS} (h : CX I f s0 acc) (j : ∀ a z, a ≠ 55 → a ≠ 62 → I' a z = I a z) : CX I' f s0 acc := fun c r hc => by
  obtain ⟨h1, h2, s, h3, h4, h5, h6⟩ := h c r hc
  exact ⟨(j _ _ (by decide) (by decide)).trans h1, (j _ _ (by decide) (by decide)).trans h2, s, (j _ _ (by decide) (by decide)).trans h3, (j _ _ (by decide) (by decide)).trans h4, h5, fun a k hk => (j _ _ (by decide) (by decide)).trans (h6 a k hk)⟩
/-- what the reading of town f may write -/
def m_pf (f a z : Nat) : Prop := a = 68 ∨ (a = 55 ∧ (z = 11 ∨ z = 12 ∨ z = 21 ∨ z = 22 ∨ z = 23)) ∨ (a = 67 ∧ 100 * f ≤ z) ∨ ((a = 63 ∨ a = 64 ∨ a = 65 ∨ a = 66) ∧ 10 * f ≤ z) ∨ (a = 62 ∧ z = f)
def mF (f : Nat) (I I' : Nat → Nat → Int32) : Prop := ∀ a z, ¬ m_pf f a z → I' a z = I a z
theorem mF_C {f n s0 : Nat} {I I' I'' : Nat → Nat → Int32} (h : mF f I I') (j : mC (10 * f + n) s0 I' I'') (hs : 100 * f ≤ s0) : mF f I I'' := fun a z m => by
  refine (j a z (fun e => m ?_) (fun e => m ?_)).trans (h a z m)
  · rcases e with e | e | e | e
    · exact Or.inl e
    · exact Or.inr (Or.inl e)
    · exact Or.inr (Or.inr (Or.inl ⟨e.1, by omega⟩))
    · exact Or.inr (Or.inr (Or.inr (Or.inl ⟨Or.inr (Or.inr e.1), by omega⟩)))
  · exact Or.inr (Or.inr (Or.inr (Or.inl ⟨e.1.elim Or.inl (fun y => Or.inr (Or.inl y)), by omega⟩)))
theorem mF_at {f : Nat} {I I' : Nat → Nat → Int32} (h : mF f I I') {k : Nat} {x : Int32} (hk : k = 11 ∨ k = 12 ∨ k = 21 ∨ k = 22 ∨ k = 23) : mF f I (v_u I' 55 k x) := fun a z m => (if_neg (fun e => m (Or.inr (Or.inl ⟨e.1, by rw [e.2]; exact hk⟩)))).trans (h a z m)
theorem mF_cl {f : Nat} {I I' : Nat → Nat → Int32} (h : mF f I I') {x : Int32} : mF f I (v_u I' 62 f x) := fun a z m => (if_neg (fun e => m (Or.inr (Or.inr (Or.inr (Or.inr e)))))).trans (h a z m)
theorem mF_rf {f : Nat} {I : Nat → Nat → Int32} : mF f I I := fun _ _ _ => rfl
theorem MTx_F {f : Nat} {I I' : Nat → Nat → Int32} {T : List Nat} (h : MTx I T) (j : mF f I I') : MTx I' T := ⟨(j _ _ (by simp [m_pf])).trans h.1, h.2.1, fun k q hk => ⟨(j _ _ (by simp [m_pf])).trans (h.2.2 k q hk).1, (h.2.2 k q hk).2⟩⟩
theorem ML_F {f : Nat} {I I' : Nat → Nat → Int32} (h : ML I) (j : mF f I I') : ML I' := fun k q hk => (j _ _ (by simp [m_pf])).trans (h k q hk)
abbrev rm_X12_goesText : Room := { frames := 6, cells := 0, slots := 0, locals := 130 }
set_option maxRecDepth 20000 in
theorem c_X12_goesText (G : v_G) (l : Launch) {K : Nat × v_TY} {I : Nat → Nat → Int32} {J : Nat → Nat → Int64} {R : Nat → Nat → Option Nat} (hL : Lay K R) {f : Nat} {T : List Nat} (hT : MTx I T) (hML : ML I) (hf : f < 6) : v_M G l yX12_goesText cX12_goesText 3 (some .boolean) rm_X12_goesText [.ref 55, .int (nI f)] (K, I, J, R) (v_Qi G (fun (x : Int32) (M' : v_MM) => x = v_p ((p_cs T 10 0 []).2.isSome = true) ∧ ∃ I', M' = (K, I', J, R) ∧ mF f I I' ∧ I' 55 11 = nI (p_cs T 10 0 []).1 ∧ ∀ p, (p_cs T 10 0 []).2 = some p → MPt I' f p)) := by
  refine v_of [some (.ref 55), some (.int (nI f)), none] (by decide) (Nat.le_of_ble_eq_true rfl) (Nat.le_of_ble_eq_true rfl) rfl ?_
  refine v_aload_n (pc := 0) dX12_goesText_0 rfl rfl ?_
  refine v_iconst (pc := 1) (v := nI 0) dX12_goesText_1 (by decide) ?_
  refine v_putI (pc := 2) pg_X12_44_12 (fun h => by cases h) dX12_goesText_2 (li_55 hL) rfl rfl ?_
  refine v_aload_n (pc := 5) dX12_goesText_5 rfl rfl ?_
  refine v_bipush (pc := 6) (v := nI 100) dX12_goesText_6 (by decide) ?_
  refine v_iload_n (pc := 8) dX12_goesText_8 rfl rfl ?_
  refine v_imulN (pc := 9) dX12_goesText_9 ?_
  refine v_putI (pc := 10) pg_X12_74_12 (fun h => by cases h) dX12_goesText_10 (li_55 hL) rfl rfl ?_
  refine v_iconst (pc := 13) (v := nI 0) dX12_goesText_13 (by decide) ?_
  refine v_istore_n (pc := 14) dX12_goesText_14 rfl (by decide) rfl ?_
  have h100 := hT.2.1
  have key : ∀ n, n ≤ 9 → ∀ (q s0 : Nat) (acc : CLS) (Ii : Nat → Nat → Int32), q ≤ T.length → acc.length = n → (∀ c ∈ acc, w_okc c) → mF f I Ii → Ii 55 11 = nI q → Ii 55 21 = nI s0 → 100 * f ≤ s0 → s0 ≤ 100 * f + q → CX Ii f s0 acc → p_cs T (10 - n) q acc = p_cs T 10 0 [] → v_V G l yX12_goesText cX12_goesText 3 (some .boolean) rm_X12_goesText (v_Qi G (fun (x : Int32) (M' : v_MM) => x = v_p ((p_cs T 10 0 []).2.isSome = true) ∧ ∃ I', M' = (K, I', J, R) ∧ mF f I I' ∧ I' 55 11 = nI (p_cs T 10 0 []).1 ∧ ∀ p, (p_cs T 10 0 []).2 = some p → MPt I' f p)) 0 0 15 [some (.ref 55), some (.int (nI f)), some (.int (nI n))] [] (K, Ii, J, R) := by
    refine v_down 9 (fun n hn ih => ?_)
    intro q s0 acc Ii hq hacc hok hF haq hsq h0 hb hCX hr
    obtain ⟨w, hw⟩ : ∃ w, 10 - n = w + 1 := ⟨9 - n, by omega⟩
    rw [hw] at hr
    refine v_aload_n (pc := 15) dX12_goesText_15 rfl rfl ?_
    refine v_bipush (pc := 16) (v := nI 10) dX12_goesText_16 (by decide) ?_
    refine v_iload_n (pc := 18) dX12_goesText_18 rfl rfl ?_
    refine v_imulN (pc := 19) dX12_goesText_19 ?_
    refine v_iload_n (pc := 20) dX12_goesText_20 rfl rfl ?_
    refine v_iaddN (pc := 21) dX12_goesText_21 ?_
    refine v_ci (pc := 22) (v_rV (c_X12_takesClause G l hL (f := f) (c := 10 * f + n) (MTx_F hT hF) haq hq (ML_F hML hF) hsq ⟨by omega, hf⟩ (by omega)) rfl kV_X12_267 (v_rcO (li_55 hL) rfl (by decide)) ⟨Nat.le_of_ble_eq_true rfl, Nat.le_of_ble_eq_true rfl⟩ ⟨Nat.le_of_ble_eq_true rfl, Nat.le_of_ble_eq_true rfl⟩ dX12_goesText_22 (Nat.le_of_ble_eq_true rfl)) (fun x22 M22 h22 => ?_)
    obtain ⟨rfl, I2, rfl, y2, a2, e2⟩ := h22
    have hpc := p_cl_ok h100 hq
    have hF2 : mF f I I2 := mF_C hF y2 h0
    rcases ecl : p_cl T q with ⟨q2, _ | cl⟩ <;> rw [ecl] at hpc a2 e2 <;> dsimp only at a2 hpc
    · have er : p_cs T 10 0 [] = (q2, none) := hr.symm.trans (p_cs_1 ecl)
      refine v_if_neP (pc := 25) (tgt := 30) dX12_goesText_25 (by decide) (fun c25 => ?_) (fun c25 => ?_)
      · exact absurd c25 Bool.false_ne_true
      · refine v_iconst (pc := 28) (v := nI 0) dX12_goesText_28 (by decide) ?_
        exact v_iret (pc := 29) dX12_goesText_29 rfl rfl (Nat.le_of_ble_eq_true rfl) (Nat.le_of_ble_eq_true rfl) ⟨by rw [er]; exact v_pz Bool.false_ne_true, _, rfl, hF2, by rw [er]; exact a2, fun ks hk => by rw [er] at hk; cases hk⟩
    · have hcl := hpc.2.2 cl rfl
      have hcl2 := hcl.2
      have hF3 : mF f I (v_u I2 62 f (nI (n + 1))) := mF_cl hF2
      have hCX3 : CX (v_u I2 62 f (nI (n + 1))) f (s0 + cl.2.2.length) (acc ++ [cl]) := CX_o (CX_s hCX (by rw [hacc]; exact y2) (by rw [hacc]; exact e2 cl rfl)) (fun a z n1 n2 => v_u_h n2)
      have hal : (acc ++ [cl]).length = n + 1 := by rw [List.length_append, hacc]; rfl
      have hok3 : ∀ c ∈ acc ++ [cl], w_okc c := fun c hc => by rcases List.mem_append.mp hc with z | z; exact hok c z; rw [List.mem_singleton.mp z]; exact hcl.1
      refine v_if_neP (pc := 25) (tgt := 30) dX12_goesText_25 (by decide) (fun c25 => ?_) (fun c25 => ?_)
      · refine v_iincN (pc := 30) (b := 1) dX12_goesText_30 rfl (by decide) (by decide) rfl ?_
        refine v_aload_n (pc := 33) dX12_goesText_33 rfl rfl ?_
        refine v_getH (pc := 34) fg_X12_53_12 dX12_goesText_34 (li_55 hL) (lr_55_14 hL) ?_
        refine v_iload_n (pc := 37) dX12_goesText_37 rfl rfl ?_
        refine v_iload_n (pc := 38) dX12_goesText_38 rfl rfl ?_
        refine v_iastoreN (pc := 39) dX12_goesText_39 (li_62 hL) ⟨by omega, by omega⟩ ?_
        refine v_aload_n (pc := 40) dX12_goesText_40 rfl rfl ?_
        refine v_getV (pc := 41) fg_X12_44_12 dX12_goesText_41 (li_55 hL) ((v_u_h (by decide)).trans a2) ?_
        refine v_aload_n (pc := 44) dX12_goesText_44 rfl rfl ?_
        refine v_getV (pc := 45) fg_X12_41_12 dX12_goesText_45 (li_55 hL) (MTx_F hT hF3).1 ?_
        refine v_icmp_neN (pc := 48) (tgt := 53) ⟨by omega, by omega⟩ dX12_goesText_48 (by decide) (fun c48 => ?_) (fun c48 => ?_)
        · refine v_iload_n (pc := 53) dX12_goesText_53 rfl rfl ?_
          refine v_bipush (pc := 54) (v := nI 10) dX12_goesText_54 (by decide) ?_
          refine v_icmp_eqN (pc := 56) (tgt := 68) ⟨by omega, by omega⟩ dX12_goesText_56 (by decide) (fun c56 => ?_) (fun c56 => ?_)
          · have er : p_cs T 10 0 [] = (q2, none) := hr.symm.trans (p_cs_3 ecl c48 (by omega))
            refine v_iconst (pc := 68) (v := nI 0) dX12_goesText_68 (by decide) ?_
            exact v_iret (pc := 69) dX12_goesText_69 rfl rfl (Nat.le_of_ble_eq_true rfl) (Nat.le_of_ble_eq_true rfl) ⟨by rw [er]; exact v_pz Bool.false_ne_true, _, rfl, hF3, by rw [er]; exact (v_u_h (by decide)).trans a2, fun ks hk => by rw [er] at hk; cases hk⟩
          · refine v_aload_n (pc := 59) dX12_goesText_59 rfl rfl ?_
            refine v_bipush (pc := 60) (v := nI 59) dX12_goesText_60 (by decide) ?_
            refine v_ci (pc := 62) (v_rV (c_X12_takes G l hL (c := 59) (MTx_F hT hF3) ((v_u_h (by decide)).trans a2) hpc.1 (by decide)) rfl kV_X12_232 (v_rcO (li_55 hL) rfl (by decide)) ⟨Nat.le_of_ble_eq_true rfl, Nat.le_of_ble_eq_true rfl⟩ ⟨Nat.le_of_ble_eq_true rfl, Nat.le_of_ble_eq_true rfl⟩ dX12_goesText_62 (Nat.le_of_ble_eq_true rfl)) (fun x62 M62 h62 => ?_)
            obtain ⟨rfl, rfl⟩ := h62
            have hch : (p_ch T 59 q2 = (q2, none) ∧ tx T q2 ≠ 59) ∨ (p_ch T 59 q2 = (q2 + 1, some 0) ∧ tx T q2 = 59) := by
              unfold p_ch
              by_cases c0 : tx T q2 = 59
              · exact Or.inr ⟨if_pos c0, c0⟩
              · exact Or.inl ⟨if_neg c0, c0⟩
            rcases hch with ⟨ec, ec2⟩ | ⟨ec, ec2⟩ <;> rw [ec]
            · have er : p_cs T 10 0 [] = (q2, none) := hr.symm.trans (p_cs_5 ecl c48 ec2)
              refine v_if_neP (pc := 65) (tgt := 15) dX12_goesText_65 (by decide) (fun c65 => ?_) (fun c65 => ?_)
              · exact absurd c65 Bool.false_ne_true
              · refine v_iconst (pc := 68) (v := nI 0) dX12_goesText_68 (by decide) ?_
                exact v_iret (pc := 69) dX12_goesText_69 rfl rfl (Nat.le_of_ble_eq_true rfl) (Nat.le_of_ble_eq_true rfl) ⟨by rw [er]; exact v_pz Bool.false_ne_true, _, rfl, mF_at hF3 (by omega), by rw [er]; exact v_u_same, fun ks hk => by rw [er] at hk; cases hk⟩
            · rw [p_cs_4 ecl c48 (by omega) ec2] at hr
              have hlt2 := tx_lt (T := T) (i := q2) (by omega)
              refine v_if_neP (pc := 65) (tgt := 15) dX12_goesText_65 (by decide) (fun c65 => ?_) (fun c65 => ?_)
              · exact ih (n + 1) (by omega) (by omega) (q2 + 1) (s0 + cl.2.2.length) (acc ++ [cl]) _ (by omega) hal hok3 (mF_at hF3 (by omega)) v_u_same ((v_u_k (by decide)).trans ((v_u_h (by decide)).trans (e2 cl rfl).2.2.2.2.1)) (by omega) (by omega) (CX_o hCX3 (fun a z n1 n2 => v_u_h n1)) (by rw [show 10 - (n + 1) = w by omega]; exact hr)
              · exact absurd rfl c65
        · have er : p_cs T 10 0 [] = (q2, some (acc ++ [cl])) := hr.symm.trans (p_cs_2 ecl c48)
          refine v_iconst (pc := 51) (v := nI 1) dX12_goesText_51 (by decide) ?_
          exact v_iret (pc := 52) dX12_goesText_52 rfl rfl (Nat.le_of_ble_eq_true rfl) (Nat.le_of_ble_eq_true rfl) ⟨by rw [er]; exact v_po rfl, _, rfl, hF3, by rw [er]; exact (v_u_h (by decide)).trans a2, fun p hp => by rw [er] at hp; cases hp; exact ⟨hf, ⟨by omega, hok3⟩, by rw [hal]; exact v_u_same, fun c q hc => by obtain ⟨g1, g2, s, g3, g4, g5, g6⟩ := hCX3 c q hc; exact ⟨g1, g2, s, g3, g4, by omega, g6⟩⟩⟩
      · exact absurd rfl c25
  exact key 0 (by omega) 0 (100 * f) [] _ (Nat.zero_le _) rfl (fun c hc => by cases hc) (mF_at (mF_at mF_rf (by omega)) (by omega)) ((v_u_k (by decide)).trans v_u_same) v_u_same (Nat.le_refl _) (Nat.le_refl _) (fun c q hc => by cases hc) rfl
abbrev rm_X12_town : Room := { frames := 7, cells := 0, slots := 0, locals := 152 }
set_option maxRecDepth 20000 in
theorem c_X12_town (G : v_G) (l : Launch) {K : Nat × v_TY} {I : Nat → Nat → Int32} {J : Nat → Nat → Int64} {R : Nat → Nat → Option Nat} (hL : Lay K R) {t : Nat} {T : List Nat} (hT : MTx I T) (hML : ML I) (ht : I 55 8 = nI t) (h6 : t ≤ 6) : v_M G l yX12_town cX12_town 2 (some .int) rm_X12_town [.ref 55] (K, I, J, R) (v_Qi G (fun (x : Int32) (M' : v_MM) => ((t = 6 ∧ x = -4 ∧ M' = (K, I, J, R)) ∨ (t < 6 ∧ ∃ q, p_cs T 10 0 [] = (q, none) ∧ x = -10 - nI q ∧ ∃ I', M' = (K, v_u I' 55 10 (nI 0), J, R) ∧ mF t I I') ∨ (t < 6 ∧ ∃ q p, p_cs T 10 0 [] = (q, some p) ∧ x = nI t ∧ ∃ I', M' = (K, v_u (v_u (v_u I' 55 10 (nI 0)) 55 9 (nI t)) 55 8 (nI (t + 1)), J, R) ∧ mF t I I' ∧ MPt I' t p)))) := by
  refine v_of [some (.ref 55), none] (by decide) (Nat.le_of_ble_eq_true rfl) (Nat.le_of_ble_eq_true rfl) rfl ?_
  refine v_aload_n (pc := 0) dX12_town_0 rfl rfl ?_
  refine v_getV (pc := 1) fg_X12_35_12 dX12_town_1 (li_55 hL) ht ?_
  refine v_bipush (pc := 4) (v := nI 6) dX12_town_4 (by decide) ?_
  refine v_icmp_neN (pc := 6) (tgt := 12) ⟨by omega, by omega⟩ dX12_town_6 (by decide) (fun c6 => ?_) (fun c6 => ?_)
  · refine v_aload_n (pc := 12) dX12_town_12 rfl rfl ?_
    refine v_aload_n (pc := 13) dX12_town_13 rfl rfl ?_
    refine v_getV (pc := 14) fg_X12_35_12 dX12_town_14 (li_55 hL) ht ?_
    refine v_ci (pc := 17) (v_rV (c_X12_goesText G l hL (f := t) hT hML (by omega)) rfl kV_X12_270 (v_rcO (li_55 hL) rfl (by decide)) ⟨Nat.le_of_ble_eq_true rfl, Nat.le_of_ble_eq_true rfl⟩ ⟨Nat.le_of_ble_eq_true rfl, Nat.le_of_ble_eq_true rfl⟩ dX12_town_17 (Nat.le_of_ble_eq_true rfl)) (fun x17 M17 h17 => ?_)
    obtain ⟨rfl, I17, rfl, f17, a17, p17⟩ := h17
    have ht17 : I17 55 8 = nI t := (f17 _ _ (by simp [m_pf])).trans ht
    rcases ec : p_cs T 10 0 [] with ⟨q, _ | p⟩ <;> rw [ec] at a17 p17 <;> dsimp only at a17
    · refine v_istore_n (pc := 20) dX12_town_20 rfl (by decide) rfl ?_
      refine v_aload_n (pc := 21) dX12_town_21 rfl rfl ?_
      refine v_iconst (pc := 22) (v := nI 0) dX12_town_22 (by decide) ?_
      refine v_putI (pc := 23) pg_X12_41_12 (fun h => by cases h) dX12_town_23 (li_55 hL) rfl rfl ?_
      refine v_iload_n (pc := 26) dX12_town_26 rfl rfl ?_
      refine v_if_neP (pc := 27) (tgt := 38) dX12_town_27 (by decide) (fun c27 => ?_) (fun c27 => ?_)
      · exact absurd c27 Bool.false_ne_true
      · refine v_bipush (pc := 30) (v := -10) dX12_town_30 (by decide) ?_
        refine v_aload_n (pc := 32) dX12_town_32 rfl rfl ?_
        refine v_getV (pc := 33) fg_X12_44_12 dX12_town_33 (li_55 hL) ((v_u_k (by decide)).trans a17) ?_
        refine v_isub (pc := 36) dX12_town_36 ?_
        exact v_iret (pc := 37) dX12_town_37 rfl rfl (Nat.le_of_ble_eq_true rfl) (Nat.le_of_ble_eq_true rfl) (Or.inr (Or.inl ⟨by omega, q, rfl, rfl, I17, rfl, f17⟩))
    · refine v_istore_n (pc := 20) dX12_town_20 rfl (by decide) rfl ?_
      refine v_aload_n (pc := 21) dX12_town_21 rfl rfl ?_
      refine v_iconst (pc := 22) (v := nI 0) dX12_town_22 (by decide) ?_
      refine v_putI (pc := 23) pg_X12_41_12 (fun h => by cases h) dX12_town_23 (li_55 hL) rfl rfl ?_
      refine v_iload_n (pc := 26) dX12_town_26 rfl rfl ?_
      refine v_if_neP (pc := 27) (tgt := 38) dX12_town_27 (by decide) (fun c27 => ?_) (fun c27 => ?_)
      · refine v_aload_n (pc := 38) dX12_town_38 rfl rfl ?_
        refine v_aload_n (pc := 39) dX12_town_39 rfl rfl ?_
        refine v_getV (pc := 40) fg_X12_35_12 dX12_town_40 (li_55 hL) ((v_u_k (by decide)).trans ht17) ?_
        refine v_putI (pc := 43) pg_X12_38_12 (fun h => by cases h) dX12_town_43 (li_55 hL) rfl rfl ?_
        refine v_aload_n (pc := 46) dX12_town_46 rfl rfl ?_
        refine v_dup (pc := 47) dX12_town_47 rfl ?_
        refine v_getV (pc := 48) fg_X12_35_12 dX12_town_48 (li_55 hL) ((v_u_k (by decide)).trans ((v_u_k (by decide)).trans ht17)) ?_
        refine v_iconst (pc := 51) (v := nI 1) dX12_town_51 (by decide) ?_
        refine v_iaddN (pc := 52) dX12_town_52 ?_
        refine v_putI (pc := 53) pg_X12_35_12 (fun h => by cases h) dX12_town_53 (li_55 hL) rfl rfl ?_
        refine v_aload_n (pc := 56) dX12_town_56 rfl rfl ?_
        refine v_getV (pc := 57) fg_X12_38_12 dX12_town_57 (li_55 hL) ((v_u_k (by decide)).trans v_u_same) ?_
        exact v_iret (pc := 60) dX12_town_60 rfl rfl (Nat.le_of_ble_eq_true rfl) (Nat.le_of_ble_eq_true rfl) (Or.inr (Or.inr ⟨by omega, q, p, rfl, rfl, I17, rfl, f17, p17 p rfl⟩))
      · exact absurd rfl c27
  · refine v_bipush (pc := 9) (v := -4) dX12_town_9 (by decide) ?_
    exact v_iret (pc := 11) dX12_town_11 rfl rfl (Nat.le_of_ble_eq_true rfl) (Nat.le_of_ble_eq_true rfl) (Or.inl ⟨by omega, rfl, rfl⟩)
