/-! THE REFERENCE: clauses, towns of the text -/
section RMS
variable {T : List Nat} {n i q d : Nat} {S S2 ks k2 t : List Nat}
theorem rm_t1 (h : tx T i = 33 ∨ tx T i = 40) (h4 : opens S = 4) : rm T (n + 1) true i S ks = (i, none) := (if_pos h).trans (if_pos h4)
theorem rm_t2 (h : tx T i = 33 ∨ tx T i = 40) (h4 : ¬ opens S = 4) : rm T (n + 1) true i S ks = rm T n true (i + 1) (tx T i :: S) ks := (if_pos h).trans (if_neg h4)
theorem rm_t3 (h : ¬ (tx T i = 33 ∨ tx T i = 40)) (e : p_tst T i = (q, none)) : rm T (n + 1) true i S ks = (q, none) := (if_neg h).trans (by rw [e]; rfl)
theorem rm_t4 (h : ¬ (tx T i = 33 ∨ tx T i = 40)) (e : p_tst T i = (q, some t)) : rm T (n + 1) true i S ks = rm T n false q (x_wh S (ks ++ t)).1 (x_wh S (ks ++ t)).2 := (if_neg h).trans (by rw [e]; rfl)
theorem rm_f1 (h : tx T i = 38 ∨ tx T i = 124) : rm T (n + 1) false i S ks = rm T n true (i + 1) (tx T i :: (x_st (tx T i) S ks).1) (x_st (tx T i) S ks).2 := if_pos h
theorem rm_f2 (h : ¬ (tx T i = 38 ∨ tx T i = 124)) (e : x_st 124 S ks = ([], k2)) : rm T (n + 1) false i S ks = (i, some k2) := (if_neg h).trans (by rw [e]; rfl)
theorem rm_f3 (h : ¬ (tx T i = 38 ∨ tx T i = 124)) (e : x_st 124 S ks = (d :: S2, k2)) (c : tx T i = 41) : rm T (n + 1) false i S ks = rm T n false (i + 1) (x_wh S2 k2).1 (x_wh S2 k2).2 := (if_neg h).trans (by rw [e]; exact (if_neg (fun z => by cases z)).trans (if_pos c))
theorem rm_f4 (h : ¬ (tx T i = 38 ∨ tx T i = 124)) (e : x_st 124 S ks = (d :: S2, k2)) (c : ¬ tx T i = 41) : rm T (n + 1) false i S ks = (i, none) := (if_neg h).trans (by rw [e]; exact (if_neg (fun z => by cases z)).trans (if_neg c))
end RMS
theorem x_st_mem {s : Nat} : ∀ {S ks : List Nat}, ∀ e ∈ (x_st s S ks).1, e ∈ S
  | [], _, e, h => h
  | c :: S, ks, e, h => by
    unfold x_st at h
    split at h
    · exact List.mem_cons_of_mem _ (x_st_mem e h)
    · split at h
      · exact List.mem_cons_of_mem _ (x_st_mem e h)
      · exact h
theorem x_wh_mem : ∀ {S ks : List Nat}, ∀ e ∈ (x_wh S ks).1, e ∈ S
  | [], _, e, h => h
  | c :: S, ks, e, h => by
    unfold x_wh at h
    split at h
    · exact List.mem_cons_of_mem _ (x_wh_mem e h)
    · exact h
theorem x_st_hd {d : Nat} {S2 k2 : List Nat} : ∀ {S ks : List Nat}, x_st 124 S ks = (d :: S2, k2) → d ≠ 38 ∧ d ≠ 124
  | [], _, h => by cases h
  | c :: S, ks, h => by
    unfold x_st at h
    split at h
    · exact x_st_hd h
    · split at h
      · exact x_st_hd h
      · rename_i h1 h2
        cases h
        exact ⟨h1, fun z => h2 ⟨z, by decide⟩⟩
theorem PX_push {I I' : Nat → Nat → Int32} {T : List Nat} {f s0 i c : Nat} {S ks : List Nat} (h : PX I T f s0 i S ks) (hc : c < 128) (hi : i + 1 ≤ T.length) (j : ∀ a z, ¬ (a = 55 ∧ (z = 11 ∨ z = 22 ∨ z = 23)) → ¬ (a = 68 ∧ z = S.length) → I' a z = I a z)
    (e1 : I' 55 11 = nI (i + 1)) (e2 : I' 55 22 = nI (S.length + 1)) (e3 : I' 55 23 = nI (opens (c :: S))) (e4 : I' 68 S.length = nI c) : PX I' T f s0 (i + 1) (c :: S) ks := by
  obtain ⟨a1, a2, a3, a4, a5, a6, a7, a8, a9, a10, a11⟩ := h
  exact ⟨⟨(j _ _ (by decide) (by simp)).trans a1.1, a1.2.1, fun q x hx => ⟨(j _ _ (by simp) (by simp)).trans (a1.2.2 q x hx).1, (a1.2.2 q x hx).2⟩⟩, e1, hi, e2, e3, ⟨e4, hc, SKr_c a6 (fun z hz => j _ _ (by simp) (by omega))⟩, (j _ _ (by decide) (by simp)).trans a7, fun q k hk => (j _ _ (by simp) (by simp)).trans (a8 q k hk), by show s0 + ks.length + (S.length + 1) ≤ _; omega, by show S.length + 1 ≤ i + 1; omega, a11⟩
theorem PX_drop {I I' : Nat → Nat → Int32} {T : List Nat} {f s0 i d : Nat} {S ks : List Nat} (h : PX I T f s0 i (d :: S) ks) (hi : i + 1 ≤ T.length) (j : ∀ a z, ¬ (a = 55 ∧ (z = 11 ∨ z = 22 ∨ z = 23)) → a ≠ 66 → I' a z = I a z)
    (e1 : I' 55 11 = nI (i + 1)) (e2 : I' 55 22 = nI S.length) (e3 : I' 55 23 = nI (opens S)) : PX I' T f s0 (i + 1) S ks := by
  obtain ⟨a1, a2, a3, a4, a5, a6, a7, a8, a9, a10, a11⟩ := h
  have hl : (d :: S).length = S.length + 1 := rfl
  exact ⟨⟨(j _ _ (by decide) (by decide)).trans a1.1, a1.2.1, fun q x hx => ⟨(j _ _ (by simp) (by decide)).trans (a1.2.2 q x hx).1, (a1.2.2 q x hx).2⟩⟩, e1, hi, e2, e3, SKr_c a6.2.2 (fun z _ => j _ _ (by simp) (by decide)), (j _ _ (by decide) (by decide)).trans a7, fun q k hk => (j _ _ (by simp) (by decide)).trans (a8 q k hk), by omega, by omega, a11⟩
def CE (I : Nat → Nat → Int32) (c s0 : Nat) (ks : List Nat) : Prop := I 65 c = nI s0 ∧ I 66 c = nI (s0 + ks.length) ∧ I 55 21 = nI (s0 + ks.length) ∧ ∀ (j k : Nat), ks[j]? = some k → I 67 (s0 + j) = m_tok k
abbrev rm_X12_takesE : Room := { frames := 4, cells := 0, slots := 0, locals := 86 }
set_option maxRecDepth 20000 in
theorem c_X12_takesE (G : v_G) (l : Launch) {K : Nat × v_TY} {I : Nat → Nat → Int32} {J : Nat → Nat → Int64} {R : Nat → Nat → Option Nat} (hL : Lay K R) {c f s0 : Nat} {T : List Nat} {i : Nat} (hT : MTx I T) (ha : I 55 11 = nI i) (hi : i ≤ T.length) (hs : I 55 21 = nI s0) (hb : s0 ≤ 100 * f + i ∧ f < 6) (hc : c < 60) : v_M G l yX12_takesE cX12_takesE 4 (some .boolean) rm_X12_takesE [.ref 55, .int (nI c)] (K, I, J, R) (v_Qi G (fun (x : Int32) (M' : v_MM) => x = v_p ((p_E T 4 i).2.isSome = true) ∧ ∃ I', M' = (K, I', J, R) ∧ mY c s0 I I' ∧ I' 55 11 = nI (p_E T 4 i).1 ∧ ∀ ks, (p_E T 4 i).2 = some ks → CE I' c s0 ks)) := by
  refine v_of [some (.ref 55), some (.int (nI c)), none, none] (by decide) (Nat.le_of_ble_eq_true rfl) (Nat.le_of_ble_eq_true rfl) rfl ?_
  refine v_aload_n (pc := 0) dX12_takesE_0 rfl rfl ?_
  refine v_iconst (pc := 1) (v := nI 0) dX12_takesE_1 (by decide) ?_
  refine v_putI (pc := 2) pg_X12_77_12 (fun h => by cases h) dX12_takesE_2 (li_55 hL) rfl rfl ?_
  refine v_aload_n (pc := 5) dX12_takesE_5 rfl rfl ?_
  refine v_iconst (pc := 6) (v := nI 0) dX12_takesE_6 (by decide) ?_
  refine v_putI (pc := 7) pg_X12_80_12 (fun h => by cases h) dX12_takesE_7 (li_55 hL) rfl rfl ?_
  refine v_aload_n (pc := 10) dX12_takesE_10 rfl rfl ?_
  refine v_getH (pc := 11) fg_X12_62_12 dX12_takesE_11 (li_55 hL) (lr_55_17 hL) ?_
  refine v_iload_n (pc := 14) dX12_takesE_14 rfl rfl ?_
  refine v_aload_n (pc := 15) dX12_takesE_15 rfl rfl ?_
  refine v_getV (pc := 16) fg_X12_74_12 dX12_takesE_16 (li_55 hL) ((v_u_k (by decide)).trans ((v_u_k (by decide)).trans hs)) ?_
  refine v_iastoreN (pc := 19) dX12_takesE_19 (li_65 hL) ⟨by omega, by omega⟩ ?_
  refine v_iconst (pc := 20) (v := nI 1) dX12_takesE_20 (by decide) ?_
  refine v_istore_n (pc := 21) dX12_takesE_21 rfl (by decide) rfl ?_
  have h100 := hT.2.1
  have key : ∀ (n : Nat) (w : Bool) (q : Nat) (S ks : List Nat) (Ii : Nat → Nat → Int32) (z3 : Option Value), T.length < n + q → PX Ii T f s0 q S ks → mY c s0 I Ii → Ii 65 c = nI s0 → (∀ e ∈ S, e = 33 ∨ e = 38 ∨ e = 40 ∨ e = 124) → rm T n w q S ks = p_E T 4 i → v_V G l yX12_takesE cX12_takesE 4 (some .boolean) rm_X12_takesE (v_Qi G (fun (x : Int32) (M' : v_MM) => x = v_p ((p_E T 4 i).2.isSome = true) ∧ ∃ I', M' = (K, I', J, R) ∧ mY c s0 I I' ∧ I' 55 11 = nI (p_E T 4 i).1 ∧ ∀ ks, (p_E T 4 i).2 = some ks → CE I' c s0 ks)) 0 0 22 [some (.ref 55), some (.int (nI c)), some (.int (nI (if w = true then 1 else 0))), z3] [] (K, Ii, J, R) := by
    intro n
    induction n with
    | zero => intro w q S ks Ii z3 hn hX; exact absurd hX.2.2.1 (by omega)
    | succ n ih =>
      intro w q S ks Ii z3 hn hX hY hfr hel hr
      have hq100 := hX.2.2.1
      have hSq := hX.2.2.2.2.2.2.2.2.2.1
      have hop := opens_le S
      refine v_aload_n (pc := 22) dX12_takesE_22 rfl rfl ?_
      refine v_ci (pc := 23) (v_rV (c_X12_peek G l hL hX.1 hX.2.1 hX.2.2.1) rfl kV_X12_229 (v_rcO (li_55 hL) rfl (by decide)) ⟨Nat.le_of_ble_eq_true rfl, Nat.le_of_ble_eq_true rfl⟩ ⟨Nat.le_of_ble_eq_true rfl, Nat.le_of_ble_eq_true rfl⟩ dX12_takesE_23 (Nat.le_of_ble_eq_true rfl)) (fun x23 M23 h23 => ?_)
      obtain ⟨rfl, rfl⟩ := h23
      refine v_istore_n (pc := 26) dX12_takesE_26 rfl (by decide) rfl ?_
      rcases w with - | -
      · refine v_lvs (lv' := [some (.ref 55), some (.int (nI c)), some (.int (nI 0)), some (.int (pkI T q))]) rfl ?_
        refine v_iload_n (pc := 27) dX12_takesE_27 rfl rfl ?_
        refine v_if_eqN (pc := 28) (tgt := 110) (by omega) dX12_takesE_28 (by decide) (fun c28 => ?_) (fun c28 => ?_)
        · refine v_iload_n (pc := 110) dX12_takesE_110 rfl rfl ?_
          refine v_bipush (pc := 111) (v := nI 38) dX12_takesE_111 (by decide) ?_
          refine v_icmp_eq (pc := 113) (tgt := 122) dX12_takesE_113 (by decide) (fun c113 => ?_) (fun c113 => ?_)
          · rw [tq_eq hX.1 (by decide)] at c113
            have hsp : tx T q = 38 ∨ tx T q = 124 := by omega
            have hqlt := tx_lt (T := T) (i := q) (by omega)
            rw [tq_n (show tx T q ≠ 200 by omega)]
            rw [rm_f1 hsp] at hr
            refine v_aload_n (pc := 122) dX12_takesE_122 rfl rfl ?_
            refine v_iload_n (pc := 123) dX12_takesE_123 rfl rfl ?_
            refine v_cv (pc := 124) (v_rV (c_X12_settle G l hL (cc := 1000) hX hsp) rfl kV_X12_255 (v_rcO (li_55 hL) rfl (by decide)) ⟨Nat.le_of_ble_eq_true rfl, Nat.le_of_ble_eq_true rfl⟩ ⟨Nat.le_of_ble_eq_true rfl, Nat.le_of_ble_eq_true rfl⟩ dX12_takesE_124 (Nat.le_of_ble_eq_true rfl)) (fun M124 h124 => ?_)
            obtain ⟨I4, rfl, y4, p4⟩ := h124
            have hf4 := (y4 65 c (by simp [m_py])).trans hfr
            have hs4 := p4.2.2.2.2.2.2.2.2.2.1
            have he4 : ∀ e ∈ tx T q :: (x_st (tx T q) S ks).1, e = 33 ∨ e = 38 ∨ e = 40 ∨ e = 124 := fun e he => by rcases List.mem_cons.mp he with z | z; rw [z]; omega; exact hel e (x_st_mem e z)
            generalize x_st (tx T q) S ks = X at p4 hr he4 hs4 ⊢
            obtain ⟨S4, k4⟩ := X
            dsimp only at p4 hr he4 hs4
            refine v_aload_n (pc := 127) dX12_takesE_127 rfl rfl ?_
            refine v_getH (pc := 128) fg_X12_71_12 dX12_takesE_128 (li_55 hL) (lr_55_20 hL) ?_
            refine v_aload_n (pc := 131) dX12_takesE_131 rfl rfl ?_
            refine v_getV (pc := 132) fg_X12_77_12 dX12_takesE_132 (li_55 hL) p4.2.2.2.1 ?_
            refine v_iload_n (pc := 135) dX12_takesE_135 rfl rfl ?_
            refine v_iastoreN (pc := 136) dX12_takesE_136 (li_68 hL) ⟨by omega, by omega⟩ ?_
            refine v_aload_n (pc := 137) dX12_takesE_137 rfl rfl ?_
            refine v_dup (pc := 138) dX12_takesE_138 rfl ?_
            refine v_getV (pc := 139) fg_X12_77_12 dX12_takesE_139 (li_55 hL) ((v_u_h (by decide)).trans p4.2.2.2.1) ?_
            refine v_iconst (pc := 142) (v := nI 1) dX12_takesE_142 (by decide) ?_
            refine v_iaddN (pc := 143) dX12_takesE_143 ?_
            refine v_putI (pc := 144) pg_X12_77_12 (fun h => by cases h) dX12_takesE_144 (li_55 hL) rfl rfl ?_
            refine v_iconst (pc := 147) (v := nI 1) dX12_takesE_147 (by decide) ?_
            refine v_istore_n (pc := 148) dX12_takesE_148 rfl (by decide) rfl ?_
            refine v_aload_n (pc := 149) dX12_takesE_149 rfl rfl ?_
            refine v_dup (pc := 150) dX12_takesE_150 rfl ?_
            refine v_getV (pc := 151) fg_X12_44_12 dX12_takesE_151 (li_55 hL) ((v_u_k (by decide)).trans ((v_u_h (by decide)).trans p4.2.1)) ?_
            refine v_iconst (pc := 154) (v := nI 1) dX12_takesE_154 (by decide) ?_
            refine v_iaddN (pc := 155) dX12_takesE_155 ?_
            refine v_putI (pc := 156) pg_X12_44_12 (fun h => by cases h) dX12_takesE_156 (li_55 hL) rfl rfl ?_
            refine v_goto (pc := 159) (tgt := 22) dX12_takesE_159 (by decide) ?_
            refine ih true (q + 1) (tx T q :: S4) k4 _ _ (by omega) (PX_push p4 (by omega) (by omega) (fun a z n1 n2 => ?_) v_u_same ?_ ?_ ?_) ?_ ?_ he4 hr
            · rw [v_u_g (fun e => n1 ⟨e.1, Or.inl e.2⟩), v_u_g (fun e => n1 ⟨e.1, Or.inr (Or.inl e.2)⟩), v_u_g n2]
            · rw [v_u_k (by decide), v_u_same]
            · rw [v_u_k (by decide), v_u_k (by decide), v_u_h (by decide), p4.2.2.2.2.1]; congr 1; show opens S4 = opens S4 + if _ then 1 else 0; rw [if_neg (by omega)]; rfl
            · rw [v_u_h (by decide), v_u_h (by decide), v_u_same]
            · exact mY_at (mY_at (mY_u (mY_tr hY (mY_up y4)) (Or.inl rfl)) (by omega)) (by omega)
            · rw [v_u_h (by decide), v_u_h (by decide), v_u_h (by decide)]; exact hf4
          · rw [tq_eq hX.1 (by decide)] at c113
            refine v_iload_n (pc := 116) dX12_takesE_116 rfl rfl ?_
            refine v_bipush (pc := 117) (v := nI 124) dX12_takesE_117 (by decide) ?_
            refine v_icmp_ne (pc := 119) (tgt := 162) dX12_takesE_119 (by decide) (fun c119 => ?_) (fun c119 => ?_)
            · rw [tq_eq hX.1 (by decide)] at c119
              have hno : ¬ (tx T q = 38 ∨ tx T q = 124) := by omega
              refine v_aload_n (pc := 162) dX12_takesE_162 rfl rfl ?_
              refine v_bipush (pc := 163) (v := nI 124) dX12_takesE_163 (by decide) ?_
              refine v_cv (pc := 165) (v_rV (c_X12_settle G l hL (s := 124) (cc := 1000) hX (Or.inr rfl)) rfl kV_X12_255 (v_rcO (li_55 hL) rfl (by decide)) ⟨Nat.le_of_ble_eq_true rfl, Nat.le_of_ble_eq_true rfl⟩ ⟨Nat.le_of_ble_eq_true rfl, Nat.le_of_ble_eq_true rfl⟩ dX12_takesE_165 (Nat.le_of_ble_eq_true rfl)) (fun M165 h165 => ?_)
              obtain ⟨I4, rfl, y4, p4⟩ := h165
              have hf4 := (y4 65 c (by simp [m_py])).trans hfr
              have hm4 := x_st_mem (s := 124) (S := S) (ks := ks)
              rcases hXX : x_st 124 S ks with ⟨_ | ⟨d, S4⟩, k4⟩ <;> rw [hXX] at p4 hm4 <;> dsimp only at p4 hm4
              · have er : p_E T 4 i = (q, some k4) := hr.symm.trans (rm_f2 hno hXX)
                have hw4 : I4 55 22 = nI 0 := p4.2.2.2.1
                refine v_aload_n (pc := 168) dX12_takesE_168 rfl rfl ?_
                refine v_getH (pc := 169) fg_X12_65_12 dX12_takesE_169 (li_55 hL) (lr_55_18 hL) ?_
                refine v_iload_n (pc := 172) dX12_takesE_172 rfl rfl ?_
                refine v_aload_n (pc := 173) dX12_takesE_173 rfl rfl ?_
                refine v_getV (pc := 174) fg_X12_74_12 dX12_takesE_174 (li_55 hL) p4.2.2.2.2.2.2.1 ?_
                refine v_iastoreN (pc := 177) dX12_takesE_177 (li_66 hL) ⟨by omega, by omega⟩ ?_
                refine v_aload_n (pc := 178) dX12_takesE_178 rfl rfl ?_
                refine v_getV (pc := 179) fg_X12_77_12 dX12_takesE_179 (li_55 hL) ((v_u_h (by decide)).trans hw4) ?_
                refine v_if_neN (pc := 182) (tgt := 187) (by omega) dX12_takesE_182 (by decide) (fun c182 => ?_) (fun c182 => ?_)
                · exact absurd rfl c182
                · refine v_iconst (pc := 185) (v := nI 1) dX12_takesE_185 (by decide) ?_
                  exact v_iret (pc := 186) dX12_takesE_186 rfl rfl (Nat.le_of_ble_eq_true rfl) (Nat.le_of_ble_eq_true rfl) ⟨by rw [er]; exact v_po rfl, _, rfl, mY_u (mY_tr hY (mY_up y4)) (Or.inr (Or.inr (Or.inr ⟨Or.inr rfl, rfl, hc⟩))), by rw [er]; exact (v_u_h (by decide)).trans p4.2.1, fun ks hk => by rw [er] at hk; cases hk; exact ⟨(v_u_h (by decide)).trans hf4, v_u_same, (v_u_h (by decide)).trans p4.2.2.2.2.2.2.1, fun j k hk => (v_u_h (by decide)).trans (p4.2.2.2.2.2.2.2.1 j k hk)⟩⟩
              · have hd := x_st_hd hXX
                have hd2 := hel d (hm4 d List.mem_cons_self)
                have ho4 : opens (d :: S4) = opens S4 + 1 := by show opens S4 + (if _ then 1 else 0) = _; rw [if_pos (by omega)]
                have hw4 : I4 55 22 = nI (S4.length + 1) := p4.2.2.2.1
                have hp4 : I4 55 23 = nI (opens S4 + 1) := by rw [← ho4]; exact p4.2.2.2.2.1
                have hle4 : S4.length + 1 ≤ q := p4.2.2.2.2.2.2.2.2.2.1
                have hol4 := opens_le S4
                refine v_aload_n (pc := 168) dX12_takesE_168 rfl rfl ?_
                refine v_getH (pc := 169) fg_X12_65_12 dX12_takesE_169 (li_55 hL) (lr_55_18 hL) ?_
                refine v_iload_n (pc := 172) dX12_takesE_172 rfl rfl ?_
                refine v_aload_n (pc := 173) dX12_takesE_173 rfl rfl ?_
                refine v_getV (pc := 174) fg_X12_74_12 dX12_takesE_174 (li_55 hL) p4.2.2.2.2.2.2.1 ?_
                refine v_iastoreN (pc := 177) dX12_takesE_177 (li_66 hL) ⟨by omega, by omega⟩ ?_
                refine v_aload_n (pc := 178) dX12_takesE_178 rfl rfl ?_
                refine v_getV (pc := 179) fg_X12_77_12 dX12_takesE_179 (li_55 hL) ((v_u_h (by decide)).trans hw4) ?_
                refine v_if_neN (pc := 182) (tgt := 187) (by omega) dX12_takesE_182 (by decide) (fun c182 => ?_) (fun c182 => ?_)
                · refine v_iload_n (pc := 187) dX12_takesE_187 rfl rfl ?_
                  refine v_bipush (pc := 188) (v := nI 41) dX12_takesE_188 (by decide) ?_
                  refine v_icmp_eq (pc := 190) (tgt := 195) dX12_takesE_190 (by decide) (fun c190 => ?_) (fun c190 => ?_)
                  · rw [tq_eq hX.1 (by decide)] at c190
                    rw [rm_f3 hno hXX c190] at hr
                    have hqlt := tx_lt (T := T) (i := q) (by omega)
                    refine v_aload_n (pc := 195) dX12_takesE_195 rfl rfl ?_
                    refine v_dup (pc := 196) dX12_takesE_196 rfl ?_
                    refine v_getV (pc := 197) fg_X12_77_12 dX12_takesE_197 (li_55 hL) ((v_u_h (by decide)).trans hw4) ?_
                    refine v_iconst (pc := 200) (v := nI 1) dX12_takesE_200 (by decide) ?_
                    refine v_isubN (pc := 201) (by omega) dX12_takesE_201 ?_
                    refine v_putI (pc := 202) pg_X12_77_12 (fun h => by cases h) dX12_takesE_202 (li_55 hL) rfl rfl ?_
                    refine v_aload_n (pc := 205) dX12_takesE_205 rfl rfl ?_
                    refine v_dup (pc := 206) dX12_takesE_206 rfl ?_
                    refine v_getV (pc := 207) fg_X12_80_12 dX12_takesE_207 (li_55 hL) ((v_u_k (by decide)).trans ((v_u_h (by decide)).trans hp4)) ?_
                    refine v_iconst (pc := 210) (v := nI 1) dX12_takesE_210 (by decide) ?_
                    refine v_isubN (pc := 211) (by omega) dX12_takesE_211 ?_
                    refine v_putI (pc := 212) pg_X12_80_12 (fun h => by cases h) dX12_takesE_212 (li_55 hL) rfl rfl ?_
                    refine v_aload_n (pc := 215) dX12_takesE_215 rfl rfl ?_
                    refine v_dup (pc := 216) dX12_takesE_216 rfl ?_
                    refine v_getV (pc := 217) fg_X12_44_12 dX12_takesE_217 (li_55 hL) ((v_u_k (by decide)).trans ((v_u_k (by decide)).trans ((v_u_h (by decide)).trans p4.2.1))) ?_
                    refine v_iconst (pc := 220) (v := nI 1) dX12_takesE_220 (by decide) ?_
                    refine v_iaddN (pc := 221) dX12_takesE_221 ?_
                    refine v_putI (pc := 222) pg_X12_44_12 (fun h => by cases h) dX12_takesE_222 (li_55 hL) rfl rfl ?_
                    have h25 := PX_drop (I' := (v_u (v_u (v_u (v_u I4 66 c (nI (s0 + k4.length))) 55 22 (nI (S4.length + 1 - 1))) 55 23 (nI (opens S4 + 1 - 1))) 55 11 (nI (q + 1)))) p4 (by omega) (fun a z n1 n2 => by rw [v_u_g (fun e => n1 ⟨e.1, Or.inl e.2⟩), v_u_g (fun e => n1 ⟨e.1, Or.inr (Or.inr e.2)⟩), v_u_g (fun e => n1 ⟨e.1, Or.inr (Or.inl e.2)⟩), v_u_h n2]) v_u_same ((v_u_k (by decide)).trans ((v_u_k (by decide)).trans v_u_same)) ((v_u_k (by decide)).trans v_u_same)
                    refine v_aload_n (pc := 225) dX12_takesE_225 rfl rfl ?_
                    refine v_cv (pc := 226) (v_rV (c_X12_whole G l hL (cc := 1000) h25) rfl kV_X12_249 (v_rcO (li_55 hL) rfl (by decide)) ⟨Nat.le_of_ble_eq_true rfl, Nat.le_of_ble_eq_true rfl⟩ ⟨Nat.le_of_ble_eq_true rfl, Nat.le_of_ble_eq_true rfl⟩ dX12_takesE_226 (Nat.le_of_ble_eq_true rfl)) (fun M226 h226 => ?_)
                    obtain ⟨I6, rfl, y6, p6⟩ := h226
                    refine v_goto (pc := 229) (tgt := 22) dX12_takesE_229 (by decide) ?_
                    refine ih false (q + 1) _ _ I6 _ (by omega) p6 ?_ ?_ (fun e he => hel e (hm4 e (List.mem_cons_of_mem _ (x_wh_mem e he)))) hr
                    · exact mY_tr (mY_at (mY_at (mY_at (mY_u (mY_tr hY (mY_up y4)) (Or.inr (Or.inr (Or.inr ⟨Or.inr rfl, rfl, hc⟩)))) (by omega)) (by omega)) (by omega)) (mY_up y6)
                    · rw [y6 65 c (by simp [m_py]), v_u_h (by decide), v_u_h (by decide), v_u_h (by decide), v_u_h (by decide)]; exact hf4
                  · rw [tq_eq hX.1 (by decide)] at c190
                    have er : p_E T 4 i = (q, none) := hr.symm.trans (rm_f4 hno hXX c190)
                    refine v_iconst (pc := 193) (v := nI 0) dX12_takesE_193 (by decide) ?_
                    exact v_iret (pc := 194) dX12_takesE_194 rfl rfl (Nat.le_of_ble_eq_true rfl) (Nat.le_of_ble_eq_true rfl) ⟨by rw [er]; exact v_pz Bool.false_ne_true, _, rfl, mY_u (mY_tr hY (mY_up y4)) (Or.inr (Or.inr (Or.inr ⟨Or.inr rfl, rfl, hc⟩))), by rw [er]; exact (v_u_h (by decide)).trans p4.2.1, fun ks hk => by rw [er] at hk; cases hk⟩
                · exact absurd c182 (by omega)
            · rw [tq_eq hX.1 (by decide)] at c119
              have hsp : tx T q = 38 ∨ tx T q = 124 := by omega
              have hqlt := tx_lt (T := T) (i := q) (by omega)
              rw [tq_n (show tx T q ≠ 200 by omega)]
              rw [rm_f1 hsp] at hr
              refine v_aload_n (pc := 122) dX12_takesE_122 rfl rfl ?_
              refine v_iload_n (pc := 123) dX12_takesE_123 rfl rfl ?_
              refine v_cv (pc := 124) (v_rV (c_X12_settle G l hL (cc := 1000) hX hsp) rfl kV_X12_255 (v_rcO (li_55 hL) rfl (by decide)) ⟨Nat.le_of_ble_eq_true rfl, Nat.le_of_ble_eq_true rfl⟩ ⟨Nat.le_of_ble_eq_true rfl, Nat.le_of_ble_eq_true rfl⟩ dX12_takesE_124 (Nat.le_of_ble_eq_true rfl)) (fun M124 h124 => ?_)
              obtain ⟨I4, rfl, y4, p4⟩ := h124
              have hf4 := (y4 65 c (by simp [m_py])).trans hfr
              have hs4 := p4.2.2.2.2.2.2.2.2.2.1
              have he4 : ∀ e ∈ tx T q :: (x_st (tx T q) S ks).1, e = 33 ∨ e = 38 ∨ e = 40 ∨ e = 124 := fun e he => by rcases List.mem_cons.mp he with z | z; rw [z]; omega; exact hel e (x_st_mem e z)
              generalize x_st (tx T q) S ks = X at p4 hr he4 hs4 ⊢
              obtain ⟨S4, k4⟩ := X
              dsimp only at p4 hr he4 hs4
              refine v_aload_n (pc := 127) dX12_takesE_127 rfl rfl ?_
              refine v_getH (pc := 128) fg_X12_71_12 dX12_takesE_128 (li_55 hL) (lr_55_20 hL) ?_
              refine v_aload_n (pc := 131) dX12_takesE_131 rfl rfl ?_
              refine v_getV (pc := 132) fg_X12_77_12 dX12_takesE_132 (li_55 hL) p4.2.2.2.1 ?_
              refine v_iload_n (pc := 135) dX12_takesE_135 rfl rfl ?_
              refine v_iastoreN (pc := 136) dX12_takesE_136 (li_68 hL) ⟨by omega, by omega⟩ ?_
              refine v_aload_n (pc := 137) dX12_takesE_137 rfl rfl ?_
              refine v_dup (pc := 138) dX12_takesE_138 rfl ?_
              refine v_getV (pc := 139) fg_X12_77_12 dX12_takesE_139 (li_55 hL) ((v_u_h (by decide)).trans p4.2.2.2.1) ?_
              refine v_iconst (pc := 142) (v := nI 1) dX12_takesE_142 (by decide) ?_
              refine v_iaddN (pc := 143) dX12_takesE_143 ?_
              refine v_putI (pc := 144) pg_X12_77_12 (fun h => by cases h) dX12_takesE_144 (li_55 hL) rfl rfl ?_
              refine v_iconst (pc := 147) (v := nI 1) dX12_takesE_147 (by decide) ?_
              refine v_istore_n (pc := 148) dX12_takesE_148 rfl (by decide) rfl ?_
              refine v_aload_n (pc := 149) dX12_takesE_149 rfl rfl ?_
              refine v_dup (pc := 150) dX12_takesE_150 rfl ?_
              refine v_getV (pc := 151) fg_X12_44_12 dX12_takesE_151 (li_55 hL) ((v_u_k (by decide)).trans ((v_u_h (by decide)).trans p4.2.1)) ?_
              refine v_iconst (pc := 154) (v := nI 1) dX12_takesE_154 (by decide) ?_
              refine v_iaddN (pc := 155) dX12_takesE_155 ?_
              refine v_putI (pc := 156) pg_X12_44_12 (fun h => by cases h) dX12_takesE_156 (li_55 hL) rfl rfl ?_
              refine v_goto (pc := 159) (tgt := 22) dX12_takesE_159 (by decide) ?_
              refine ih true (q + 1) (tx T q :: S4) k4 _ _ (by omega) (PX_push p4 (by omega) (by omega) (fun a z n1 n2 => ?_) v_u_same ?_ ?_ ?_) ?_ ?_ he4 hr
              · rw [v_u_g (fun e => n1 ⟨e.1, Or.inl e.2⟩), v_u_g (fun e => n1 ⟨e.1, Or.inr (Or.inl e.2)⟩), v_u_g n2]
              · rw [v_u_k (by decide), v_u_same]
              · rw [v_u_k (by decide), v_u_k (by decide), v_u_h (by decide), p4.2.2.2.2.1]; congr 1; show opens S4 = opens S4 + if _ then 1 else 0; rw [if_neg (by omega)]; rfl
              · rw [v_u_h (by decide), v_u_h (by decide), v_u_same]
              · exact mY_at (mY_at (mY_u (mY_tr hY (mY_up y4)) (Or.inl rfl)) (by omega)) (by omega)
              · rw [v_u_h (by decide), v_u_h (by decide), v_u_h (by decide)]; exact hf4
        · exact absurd rfl c28
      · refine v_lvs (lv' := [some (.ref 55), some (.int (nI c)), some (.int (nI 1)), some (.int (pkI T q))]) rfl ?_
        refine v_iload_n (pc := 27) dX12_takesE_27 rfl rfl ?_
        refine v_if_eqN (pc := 28) (tgt := 110) (by omega) dX12_takesE_28 (by decide) (fun c28 => ?_) (fun c28 => ?_)
        · exact absurd c28 (by omega)
        · refine v_iload_n (pc := 31) dX12_takesE_31 rfl rfl ?_
          refine v_bipush (pc := 32) (v := nI 33) dX12_takesE_32 (by decide) ?_
          refine v_icmp_eq (pc := 34) (tgt := 43) dX12_takesE_34 (by decide) (fun c34 => ?_) (fun c34 => ?_)
          · rw [tq_eq hX.1 (by decide)] at c34
            have hyes : tx T q = 33 ∨ tx T q = 40 := by omega
            refine v_aload_n (pc := 43) dX12_takesE_43 rfl rfl ?_
            refine v_getV (pc := 44) fg_X12_80_12 dX12_takesE_44 (li_55 hL) hX.2.2.2.2.1 ?_
            refine v_iconst (pc := 47) (v := nI 4) dX12_takesE_47 (by decide) ?_
            refine v_icmp_neN (pc := 48) (tgt := 53) ⟨by omega, by omega⟩ dX12_takesE_48 (by decide) (fun c48 => ?_) (fun c48 => ?_)
            · have hqlt := tx_lt (T := T) (i := q) (by omega)
              rw [tq_n (show tx T q ≠ 200 by omega)]
              rw [rm_t2 hyes c48] at hr
              refine v_aload_n (pc := 53) dX12_takesE_53 rfl rfl ?_
              refine v_dup (pc := 54) dX12_takesE_54 rfl ?_
              refine v_getV (pc := 55) fg_X12_80_12 dX12_takesE_55 (li_55 hL) hX.2.2.2.2.1 ?_
              refine v_iconst (pc := 58) (v := nI 1) dX12_takesE_58 (by decide) ?_
              refine v_iaddN (pc := 59) dX12_takesE_59 ?_
              refine v_putI (pc := 60) pg_X12_80_12 (fun h => by cases h) dX12_takesE_60 (li_55 hL) rfl rfl ?_
              refine v_aload_n (pc := 63) dX12_takesE_63 rfl rfl ?_
              refine v_getH (pc := 64) fg_X12_71_12 dX12_takesE_64 (li_55 hL) (lr_55_20 hL) ?_
              refine v_aload_n (pc := 67) dX12_takesE_67 rfl rfl ?_
              refine v_getV (pc := 68) fg_X12_77_12 dX12_takesE_68 (li_55 hL) ((v_u_k (by decide)).trans hX.2.2.2.1) ?_
              refine v_iload_n (pc := 71) dX12_takesE_71 rfl rfl ?_
              refine v_iastoreN (pc := 72) dX12_takesE_72 (li_68 hL) ⟨by omega, by omega⟩ ?_
              refine v_aload_n (pc := 73) dX12_takesE_73 rfl rfl ?_
              refine v_dup (pc := 74) dX12_takesE_74 rfl ?_
              refine v_getV (pc := 75) fg_X12_77_12 dX12_takesE_75 (li_55 hL) ((v_u_h (by decide)).trans ((v_u_k (by decide)).trans hX.2.2.2.1)) ?_
              refine v_iconst (pc := 78) (v := nI 1) dX12_takesE_78 (by decide) ?_
              refine v_iaddN (pc := 79) dX12_takesE_79 ?_
              refine v_putI (pc := 80) pg_X12_77_12 (fun h => by cases h) dX12_takesE_80 (li_55 hL) rfl rfl ?_
              refine v_aload_n (pc := 83) dX12_takesE_83 rfl rfl ?_
              refine v_dup (pc := 84) dX12_takesE_84 rfl ?_
              refine v_getV (pc := 85) fg_X12_44_12 dX12_takesE_85 (li_55 hL) ((v_u_k (by decide)).trans ((v_u_h (by decide)).trans ((v_u_k (by decide)).trans hX.2.1))) ?_
              refine v_iconst (pc := 88) (v := nI 1) dX12_takesE_88 (by decide) ?_
              refine v_iaddN (pc := 89) dX12_takesE_89 ?_
              refine v_putI (pc := 90) pg_X12_44_12 (fun h => by cases h) dX12_takesE_90 (li_55 hL) rfl rfl ?_
              refine v_goto (pc := 93) (tgt := 22) dX12_takesE_93 (by decide) ?_
              refine ih true (q + 1) (tx T q :: S) ks _ _ (by omega) (PX_push hX (by omega) (by omega) (fun a z n1 n2 => ?_) v_u_same ?_ ?_ ?_) ?_ ?_ (fun e he => by rcases List.mem_cons.mp he with z | z; rw [z]; omega; exact hel e z) hr
              · rw [v_u_g (fun e => n1 ⟨e.1, Or.inl e.2⟩), v_u_g (fun e => n1 ⟨e.1, Or.inr (Or.inl e.2)⟩), v_u_g n2, v_u_g (fun e => n1 ⟨e.1, Or.inr (Or.inr e.2)⟩)]
              · rw [v_u_k (by decide), v_u_same]
              · rw [v_u_k (by decide), v_u_k (by decide), v_u_h (by decide), v_u_same]; congr 1; show opens S + 1 = opens S + if _ then 1 else 0; rw [if_pos (by omega)]
              · rw [v_u_h (by decide), v_u_h (by decide), v_u_same]
              · exact mY_at (mY_at (mY_u (mY_at hY (by omega)) (Or.inl rfl)) (by omega)) (by omega)
              · rw [v_u_h (by decide), v_u_h (by decide), v_u_h (by decide), v_u_h (by decide)]; exact hfr
            · have er : p_E T 4 i = (q, none) := hr.symm.trans (rm_t1 hyes c48)
              refine v_iconst (pc := 51) (v := nI 0) dX12_takesE_51 (by decide) ?_
              exact v_iret (pc := 52) dX12_takesE_52 rfl rfl (Nat.le_of_ble_eq_true rfl) (Nat.le_of_ble_eq_true rfl) ⟨by rw [er]; exact v_pz Bool.false_ne_true, _, rfl, hY, by rw [er]; exact hX.2.1, fun ks hk => by rw [er] at hk; cases hk⟩
          · rw [tq_eq hX.1 (by decide)] at c34
            refine v_iload_n (pc := 37) dX12_takesE_37 rfl rfl ?_
            refine v_bipush (pc := 38) (v := nI 40) dX12_takesE_38 (by decide) ?_
            refine v_icmp_ne (pc := 40) (tgt := 96) dX12_takesE_40 (by decide) (fun c40 => ?_) (fun c40 => ?_)
            · rw [tq_eq hX.1 (by decide)] at c40
              have hno : ¬ (tx T q = 33 ∨ tx T q = 40) := by omega
              refine v_aload_n (pc := 96) dX12_takesE_96 rfl rfl ?_
              refine v_ci (pc := 97) (v_rV (c_X12_takesTest G l hL (cc := 1000) hX) rfl kV_X12_252 (v_rcO (li_55 hL) rfl (by decide)) ⟨Nat.le_of_ble_eq_true rfl, Nat.le_of_ble_eq_true rfl⟩ ⟨Nat.le_of_ble_eq_true rfl, Nat.le_of_ble_eq_true rfl⟩ dX12_takesE_97 (Nat.le_of_ble_eq_true rfl)) (fun x97 M97 h97 => ?_)
              obtain ⟨rfl, I7, rfl, y7, a7, t7⟩ := h97
              have hf7 := (y7 65 c (by simp [m_py])).trans hfr
              have hpt := PP_tst T q hq100
              rcases et : p_tst T q with ⟨q2, _ | t⟩ <;> rw [et] at a7 t7 hpt
              · have er : p_E T 4 i = (q2, none) := hr.symm.trans (rm_t3 hno et)
                refine v_if_eqP (pc := 100) (tgt := 108) dX12_takesE_100 (by decide) (fun c100 => ?_) (fun c100 => ?_)
                · refine v_iconst (pc := 108) (v := nI 0) dX12_takesE_108 (by decide) ?_
                  exact v_iret (pc := 109) dX12_takesE_109 rfl rfl (Nat.le_of_ble_eq_true rfl) (Nat.le_of_ble_eq_true rfl) ⟨by rw [er]; exact v_pz Bool.false_ne_true, _, rfl, mY_tr hY (mY_up y7), by rw [er]; exact a7, fun ks hk => by rw [er] at hk; cases hk⟩
                · exact absurd c100 Bool.false_ne_true
              · rw [rm_t4 hno et] at hr
                have hlt := (hpt.2.2 t rfl).2.1
                dsimp only at hlt hpt
                have p7 := t7 t rfl
                refine v_if_eqP (pc := 100) (tgt := 108) dX12_takesE_100 (by decide) (fun c100 => ?_) (fun c100 => ?_)
                · exact absurd rfl c100
                · refine v_iconst (pc := 103) (v := nI 0) dX12_takesE_103 (by decide) ?_
                  refine v_istore_n (pc := 104) dX12_takesE_104 rfl (by decide) rfl ?_
                  refine v_goto (pc := 105) (tgt := 22) dX12_takesE_105 (by decide) ?_
                  exact ih false q2 _ _ I7 _ (by omega) p7 (mY_tr hY (mY_up y7)) hf7 (fun e he => hel e (x_wh_mem e he)) hr
            · rw [tq_eq hX.1 (by decide)] at c40
              have hyes : tx T q = 33 ∨ tx T q = 40 := by omega
              refine v_aload_n (pc := 43) dX12_takesE_43 rfl rfl ?_
              refine v_getV (pc := 44) fg_X12_80_12 dX12_takesE_44 (li_55 hL) hX.2.2.2.2.1 ?_
              refine v_iconst (pc := 47) (v := nI 4) dX12_takesE_47 (by decide) ?_
              refine v_icmp_neN (pc := 48) (tgt := 53) ⟨by omega, by omega⟩ dX12_takesE_48 (by decide) (fun c48 => ?_) (fun c48 => ?_)
              · have hqlt := tx_lt (T := T) (i := q) (by omega)
                rw [tq_n (show tx T q ≠ 200 by omega)]
                rw [rm_t2 hyes c48] at hr
                refine v_aload_n (pc := 53) dX12_takesE_53 rfl rfl ?_
                refine v_dup (pc := 54) dX12_takesE_54 rfl ?_
                refine v_getV (pc := 55) fg_X12_80_12 dX12_takesE_55 (li_55 hL) hX.2.2.2.2.1 ?_
                refine v_iconst (pc := 58) (v := nI 1) dX12_takesE_58 (by decide) ?_
                refine v_iaddN (pc := 59) dX12_takesE_59 ?_
                refine v_putI (pc := 60) pg_X12_80_12 (fun h => by cases h) dX12_takesE_60 (li_55 hL) rfl rfl ?_
                refine v_aload_n (pc := 63) dX12_takesE_63 rfl rfl ?_
                refine v_getH (pc := 64) fg_X12_71_12 dX12_takesE_64 (li_55 hL) (lr_55_20 hL) ?_
                refine v_aload_n (pc := 67) dX12_takesE_67 rfl rfl ?_
                refine v_getV (pc := 68) fg_X12_77_12 dX12_takesE_68 (li_55 hL) ((v_u_k (by decide)).trans hX.2.2.2.1) ?_
                refine v_iload_n (pc := 71) dX12_takesE_71 rfl rfl ?_
                refine v_iastoreN (pc := 72) dX12_takesE_72 (li_68 hL) ⟨by omega, by omega⟩ ?_
                refine v_aload_n (pc := 73) dX12_takesE_73 rfl rfl ?_
                refine v_dup (pc := 74) dX12_takesE_74 rfl ?_
                refine v_getV (pc := 75) fg_X12_77_12 dX12_takesE_75 (li_55 hL) ((v_u_h (by decide)).trans ((v_u_k (by decide)).trans hX.2.2.2.1)) ?_
                refine v_iconst (pc := 78) (v := nI 1) dX12_takesE_78 (by decide) ?_
                refine v_iaddN (pc := 79) dX12_takesE_79 ?_
                refine v_putI (pc := 80) pg_X12_77_12 (fun h => by cases h) dX12_takesE_80 (li_55 hL) rfl rfl ?_
                refine v_aload_n (pc := 83) dX12_takesE_83 rfl rfl ?_
                refine v_dup (pc := 84) dX12_takesE_84 rfl ?_
                refine v_getV (pc := 85) fg_X12_44_12 dX12_takesE_85 (li_55 hL) ((v_u_k (by decide)).trans ((v_u_h (by decide)).trans ((v_u_k (by decide)).trans hX.2.1))) ?_
                refine v_iconst (pc := 88) (v := nI 1) dX12_takesE_88 (by decide) ?_
                refine v_iaddN (pc := 89) dX12_takesE_89 ?_
                refine v_putI (pc := 90) pg_X12_44_12 (fun h => by cases h) dX12_takesE_90 (li_55 hL) rfl rfl ?_
                refine v_goto (pc := 93) (tgt := 22) dX12_takesE_93 (by decide) ?_
                refine ih true (q + 1) (tx T q :: S) ks _ _ (by omega) (PX_push hX (by omega) (by omega) (fun a z n1 n2 => ?_) v_u_same ?_ ?_ ?_) ?_ ?_ (fun e he => by rcases List.mem_cons.mp he with z | z; rw [z]; omega; exact hel e z) hr
                · rw [v_u_g (fun e => n1 ⟨e.1, Or.inl e.2⟩), v_u_g (fun e => n1 ⟨e.1, Or.inr (Or.inl e.2)⟩), v_u_g n2, v_u_g (fun e => n1 ⟨e.1, Or.inr (Or.inr e.2)⟩)]
                · rw [v_u_k (by decide), v_u_same]
                · rw [v_u_k (by decide), v_u_k (by decide), v_u_h (by decide), v_u_same]; congr 1; show opens S + 1 = opens S + if _ then 1 else 0; rw [if_pos (by omega)]
                · rw [v_u_h (by decide), v_u_h (by decide), v_u_same]
                · exact mY_at (mY_at (mY_u (mY_at hY (by omega)) (Or.inl rfl)) (by omega)) (by omega)
                · rw [v_u_h (by decide), v_u_h (by decide), v_u_h (by decide), v_u_h (by decide)]; exact hfr
              · have er : p_E T 4 i = (q, none) := hr.symm.trans (rm_t1 hyes c48)
                refine v_iconst (pc := 51) (v := nI 0) dX12_takesE_51 (by decide) ?_
                exact v_iret (pc := 52) dX12_takesE_52 rfl rfl (Nat.le_of_ble_eq_true rfl) (Nat.le_of_ble_eq_true rfl) ⟨by rw [er]; exact v_pz Bool.false_ne_true, _, rfl, hY, by rw [er]; exact hX.2.1, fun ks hk => by rw [er] at hk; cases hk⟩
  refine key (T.length + 1) true i [] [] _ _ (by omega) ?_ ?_ v_u_same (fun e he => by cases he) (rm_E h100 (by omega) hi)
  · exact ⟨MTx_Y hT (mY_u (mY_at (mY_at (c := c) (s0 := s0) mY_rf (by omega)) (by omega)) (Or.inr (Or.inr (Or.inr ⟨Or.inl rfl, rfl, hc⟩)))), (v_u_h (by decide)).trans ((v_u_k (by decide)).trans ((v_u_k (by decide)).trans ha)), hi, (v_u_h (by decide)).trans ((v_u_k (by decide)).trans v_u_same), (v_u_h (by decide)).trans v_u_same, trivial, (v_u_h (by decide)).trans ((v_u_k (by decide)).trans ((v_u_k (by decide)).trans hs)), fun j k hk => by (cases hk), by show s0 + 0 + 0 ≤ _; omega, Nat.zero_le _, hb.2⟩
  · exact mY_u (mY_at (mY_at mY_rf (by omega)) (by omega)) (Or.inr (Or.inr (Or.inr ⟨Or.inl rfl, rfl, hc⟩)))
