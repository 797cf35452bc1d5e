/-! THE REFERENCE: towns -/
def w_both (f : Nat → Nat) (a c : Nat) : Nat := cnt (fun j => (f a &&& f c).testBit j) 7
abbrev rm_X12_isLawful : Room := { frames := 1, cells := 0, slots := 0, locals := 23 }
set_option maxRecDepth 20000 in
theorem c_X12_isLawful (G : v_G) (l : Launch) {K : Nat × v_TY} {I : Nat → Nat → Int32} {J : Nat → Nat → Int64} {R : Nat → Nat → Option Nat} (hL : Lay K R) {n k : Nat} {f : Nat → Nat} (hp : ∀ i, i < 5 → I 72 i = nI (f i)) (hf : ∀ i, f i < 64) (hn : n ≤ 5 ∧ k ≤ 3) : v_M G l yX12_isLawful cX12_isLawful 5 (some .boolean) rm_X12_isLawful [.ref 55, .int (nI n), .int (nI k)] (K, I, J, R) (v_Qi G (fun (x : Int32) (M' : v_MM) => x = v_p (∀ a c, a < c → c < n → w_both f a c = k) ∧ M' = (K, I, J, R))) := by
  refine v_of [some (.ref 55), some (.int (nI n)), some (.int (nI k)), none, none] (by decide) (Nat.le_of_ble_eq_true rfl) (Nat.le_of_ble_eq_true rfl) rfl ?_
  refine v_iconst (pc := 0) (v := nI 0) dX12_isLawful_0 (by decide) ?_
  refine v_istore_n (pc := 1) dX12_isLawful_1 rfl (by decide) rfl ?_
  refine v_lvs (lv' := [some (.ref 55), some (.int (nI n)), some (.int (nI k)), some (.int (nI 0)), none]) rfl ?_
  have key : ∀ i, i ≤ n → ∀ z4 : Option Value, (∀ a c, a < i → a < c → c < n → w_both f a c = k) → v_V G l yX12_isLawful cX12_isLawful 5 (some .boolean) rm_X12_isLawful (v_Qi G (fun (x : Int32) (M' : v_MM) => x = v_p (∀ a c, a < c → c < n → w_both f a c = k) ∧ M' = (K, I, J, R))) 0 0 2 [some (.ref 55), some (.int (nI n)), some (.int (nI k)), some (.int (nI i)), z4] [] (K, I, J, R) := by
    refine v_down n (fun i hi ih => ?_)
    intro z4 ha
    refine v_iload_n (pc := 2) dX12_isLawful_2 rfl rfl ?_
    refine v_iload_n (pc := 3) dX12_isLawful_3 rfl rfl ?_
    refine v_icmp_geN (pc := 4) (tgt := 54) ⟨by omega, by omega⟩ dX12_isLawful_4 (by decide) (fun c4 => ?_) (fun c4 => ?_)
    · refine v_iconst (pc := 54) (v := nI 1) dX12_isLawful_54 (by decide) ?_
      exact v_iret (pc := 55) dX12_isLawful_55 rfl rfl (Nat.le_of_ble_eq_true rfl) (Nat.le_of_ble_eq_true rfl) ⟨v_po (fun a c h1 h2 => ha a c (by omega) h1 h2), rfl⟩
    · refine v_iload_n (pc := 7) dX12_isLawful_7 rfl rfl ?_
      refine v_iconst (pc := 8) (v := nI 1) dX12_isLawful_8 (by decide) ?_
      refine v_iaddN (pc := 9) dX12_isLawful_9 ?_
      refine v_istore (pc := 10) dX12_isLawful_10 (by decide) rfl ?_
      have inr : ∀ o, o ≤ n → i + 1 ≤ o → (∀ c, i < c → c < o → w_both f i c = k) → v_V G l yX12_isLawful cX12_isLawful 5 (some .boolean) rm_X12_isLawful (v_Qi G (fun (x : Int32) (M' : v_MM) => x = v_p (∀ a c, a < c → c < n → w_both f a c = k) ∧ M' = (K, I, J, R))) 0 0 12 [some (.ref 55), some (.int (nI n)), some (.int (nI k)), some (.int (nI i)), some (.int (nI o))] [] (K, I, J, R) := by
        refine v_down n (fun o ho ih2 => ?_)
        intro hio hb
        refine v_iload (pc := 12) dX12_isLawful_12 rfl ?_
        refine v_iload_n (pc := 14) dX12_isLawful_14 rfl rfl ?_
        refine v_icmp_geN (pc := 15) (tgt := 48) ⟨by omega, by omega⟩ dX12_isLawful_15 (by decide) (fun c15 => ?_) (fun c15 => ?_)
        · refine v_iincN (pc := 48) (b := 1) dX12_isLawful_48 rfl (by decide) (by decide) rfl ?_
          refine v_goto (pc := 51) (tgt := 2) dX12_isLawful_51 (by decide) ?_
          exact ih (i + 1) (by omega) (by omega) _ (fun a c h0 h1 h2 => by rcases Nat.lt_succ_iff_lt_or_eq.mp h0 with z | z; exact ha a c z h1 h2; subst z; exact hb c h1 (by omega))
        · refine v_aload_n (pc := 18) dX12_isLawful_18 rfl rfl ?_
          refine v_aload_n (pc := 19) dX12_isLawful_19 rfl rfl ?_
          refine v_getH (pc := 20) fg_X12_111_12 dX12_isLawful_20 (li_55 hL) (lr_55_33 hL) ?_
          refine v_iload_n (pc := 23) dX12_isLawful_23 rfl rfl ?_
          refine v_ialoadN (pc := 24) dX12_isLawful_24 (li_72 hL) ⟨by omega, by omega⟩ (hp i (by omega)) ?_
          refine v_aload_n (pc := 25) dX12_isLawful_25 rfl rfl ?_
          refine v_getH (pc := 26) fg_X12_111_12 dX12_isLawful_26 (li_55 hL) (lr_55_33 hL) ?_
          refine v_iload (pc := 29) dX12_isLawful_29 rfl ?_
          refine v_ialoadN (pc := 31) dX12_isLawful_31 (li_72 hL) ⟨by omega, by omega⟩ (hp o (by omega)) ?_
          refine v_iand (pc := 32) dX12_isLawful_32 ?_
          refine v_top (nx_and _ _) ?_
          refine v_ci (pc := 33) (v_rV (c_X12_ones G l hL (Nat.lt_of_le_of_lt Nat.and_le_left (Nat.lt_trans (hf i) (by decide)))) rfl kV_X12_273 (v_rcO (li_55 hL) rfl (by decide)) ⟨Nat.le_of_ble_eq_true rfl, Nat.le_of_ble_eq_true rfl⟩ ⟨Nat.le_of_ble_eq_true rfl, Nat.le_of_ble_eq_true rfl⟩ dX12_isLawful_33 (Nat.le_of_ble_eq_true rfl)) (fun x33 M33 h33 => ?_)
          obtain ⟨rfl, rfl⟩ := h33
          refine v_iload_n (pc := 36) dX12_isLawful_36 rfl rfl ?_
          have hc7 := cnt_le (fun j => (f i &&& f o).testBit j) 7
          refine v_icmp_eqN (pc := 37) (tgt := 42) ⟨by omega, by omega⟩ dX12_isLawful_37 (by decide) (fun c37 => ?_) (fun c37 => ?_)
          · refine v_iincN (pc := 42) (b := 1) dX12_isLawful_42 rfl (by decide) (by decide) rfl ?_
            refine v_goto (pc := 45) (tgt := 12) dX12_isLawful_45 (by decide) ?_
            exact ih2 (o + 1) (by omega) (by omega) (by omega) (fun c h1 h2 => by rcases Nat.lt_succ_iff_lt_or_eq.mp h2 with z | z; exact hb c h1 z; subst z; exact c37)
          · refine v_iconst (pc := 40) (v := nI 0) dX12_isLawful_40 (by decide) ?_
            exact v_iret (pc := 41) dX12_isLawful_41 rfl rfl (Nat.le_of_ble_eq_true rfl) (Nat.le_of_ble_eq_true rfl) ⟨v_pz (fun q => c37 (q i o (by omega) (by omega))), rfl⟩
      exact inr (i + 1) (by omega) (Nat.le_refl _) (fun c h1 h2 => absurd h1 (by omega))
  exact key 0 (by omega) none (fun a c h0 => absurd h0 (by omega))
