/-! THE REFERENCE: towns -/
theorem al_iff {f : Nat → Bool} : ∀ {n : Nat}, al f n = true ↔ ∀ i, i < n → f i = true
  | 0 => ⟨fun _ i hi => absurd hi (by omega), fun _ => rfl⟩
  | n + 1 => by
    show (al f n && f n) = true ↔ _
    rw [Bool.and_eq_true, al_iff]
    exact ⟨fun h i hi => by rcases Nat.lt_succ_iff_lt_or_eq.mp hi with z | z; exact h.1 i z; subst z; exact h.2, fun h => ⟨fun i hi => h i (by omega), h n (by omega)⟩⟩
/-- who are friends in the town of a code -/
def t_ed (n code i j : Nat) : Bool := decide (i ≠ j ∧ i < n ∧ j < n) && code.testBit (w_po i j)
def t_sh (n code a c : Nat) : Nat := cnt (fun j => t_ed n code a j && t_ed n code c j) 7
def t_ok (n k code : Nat) : Bool := al (fun c => al (fun a => decide (t_sh n code a c = k)) c) n
def s_towns (nn kk : Int32) : Int32 := match x_nat nn 6, x_nat kk 4 with
  | some n, some k => if n < 2 then -2 else nI (cnt (t_ok n k) (2 ^ w_pr n))
  | _, _ => -2
theorem t_ok_iff {n k code : Nat} {f : Nat → Nat} (h : ∀ i j, (f i).testBit j = t_ed n code i j) : t_ok n k code = true ↔ ∀ a c, a < c → c < n → w_both f a c = k := by
  have e : ∀ a c, w_both f a c = t_sh n code a c := fun a c => cnt_c (fun j _ => by rw [Nat.testBit_and, h, h])
  unfold t_ok
  rw [al_iff]
  constructor
  · intro g a c h1 h2
    rw [e]
    exact of_decide_eq_true (al_iff.mp (g c h2) a h1)
  · intro g c h2
    exact al_iff.mpr (fun a h1 => decide_eq_true (by rw [← e]; exact g a c h1 h2))
/-- the pairs that are done -/
def t_e (n a d i j : Nat) : Bool := decide (i ≠ j ∧ i < n ∧ j < n ∧ (i < a ∨ j < a ∨ (i = a ∧ j < d) ∨ (j = a ∧ i < d)))
def TF (I : Nat → Nat → Int32) (f : Nat → Nat) (e : Nat → Nat → Bool) (code : Nat) : Prop := (∀ i, i < 5 → I 72 i = nI (f i)) ∧ (∀ i, f i < 64) ∧ ∀ i j, (f i).testBit j = (e i j && code.testBit (w_po i j))
theorem t_e0 (n i j : Nat) : t_e n 0 1 i j = false := decide_eq_false (by omega)
theorem t_en (n i j : Nat) : t_e n n (n + 1) i j = decide (i ≠ j ∧ i < n ∧ j < n) := decide_eq_decide.mpr (by omega)
theorem t_es {n a i j : Nat} : t_e n a n i j = t_e n (a + 1) (a + 2) i j := decide_eq_decide.mpr (by omega)
theorem w_po_c {a d : Nat} : w_po d a = w_po a d := by
  unfold w_po
  by_cases h : a < d
  · rw [if_pos h, if_neg (by omega)]
  · by_cases e : a = d
    · subst e; rfl
    · rw [if_neg h, if_pos (by omega)]
theorem t_up0 {f : Nat → Nat} {n a d code : Nat} (h : ∀ i j, (f i).testBit j = (t_e n a d i j && code.testBit (w_po i j))) (hc : ¬ code.testBit (w_po a d) = true) (i j : Nat) : (f i).testBit j = (t_e n a (d + 1) i j && code.testBit (w_po i j)) := by
  rw [h]
  by_cases e : (i = a ∧ j = d) ∨ (i = d ∧ j = a)
  · have : code.testBit (w_po i j) = false := by
      rcases e with ⟨rfl, rfl⟩ | ⟨rfl, rfl⟩
      · simpa using hc
      · rw [w_po_c]; simpa using hc
    rw [this, Bool.and_false, Bool.and_false]
  · congr 1
    exact decide_eq_decide.mpr (by omega)
def t_put (f : Nat → Nat) (a d : Nat) : Nat → Nat := fun i => if i = a then f a ||| 2 ^ d else if i = d then f d ||| 2 ^ a else f i
theorem t_up1 {f : Nat → Nat} {n a d code : Nat} (h : ∀ i j, (f i).testBit j = (t_e n a d i j && code.testBit (w_po i j))) (had : a < d) (hd : d < n) (hc : code.testBit (w_po a d) = true) (i j : Nat) : (t_put f a d i).testBit j = (t_e n a (d + 1) i j && code.testBit (w_po i j)) := by
  unfold t_put
  by_cases e1 : i = a
  · subst e1
    rw [if_pos rfl, Nat.testBit_or, Nat.testBit_two_pow, h]
    by_cases e2 : j = d
    · subst e2
      rw [hc, show t_e n i (j + 1) i j = true from decide_eq_true (by omega)]
      simp
    · rw [decide_eq_false (show ¬ d = j by omega), Bool.or_false]
      congr 1
      exact decide_eq_decide.mpr (by omega)
  · rw [if_neg e1]
    by_cases e3 : i = d
    · subst e3
      rw [if_pos rfl, Nat.testBit_or, Nat.testBit_two_pow, h]
      by_cases e2 : j = a
      · subst e2
        rw [w_po_c, hc, show t_e n j (i + 1) i j = true from decide_eq_true (by omega)]
        simp
      · rw [decide_eq_false (show ¬ a = j by omega), Bool.or_false]
        congr 1
        exact decide_eq_decide.mpr (by omega)
    · rw [if_neg e3, h]
      congr 1
      exact decide_eq_decide.mpr (by omega)
theorem TF_up {I : Nat → Nat → Int32} {f : Nat → Nat} {n a d code : Nat} (h : TF I f (t_e n a d) code) (had : a < d) (hd : d < n) (hc : code.testBit (w_po a d) = true) (hn : n ≤ 5) : TF (v_u (v_u I 72 a (nI (f a ||| 2 ^ d))) 72 d (nI (f d ||| 2 ^ a))) (t_put f a d) (t_e n a (d + 1)) code := by
  refine ⟨fun i hi => ?_, fun i => ?_, t_up1 h.2.2 had hd hc⟩
  · unfold t_put
    by_cases e1 : i = a
    · subst e1; rw [v_u_k (by omega), v_u_same, if_pos rfl]
    · by_cases e2 : i = d
      · subst e2; rw [v_u_same, if_neg e1, if_pos rfl]
      · rw [v_u_k e2, v_u_k e1, if_neg e1, if_neg e2]; exact h.1 i hi
  · have hp : ∀ x, x < 5 → 2 ^ x < 2 ^ 6 := fun x hx => Nat.pow_lt_pow_right (by decide) (by omega)
    unfold t_put
    split
    · exact Nat.or_lt_two_pow (n := 6) (h.2.1 a) (hp d (by omega))
    · split
      · exact Nat.or_lt_two_pow (n := 6) (h.2.1 d) (hp a (by omega))
      · exact h.2.1 i
theorem mJ_pl {I I' : Nat → Nat → Int32} {k : Nat} {x : Int32} (h : mJ I I') : mJ I (v_u I' 72 k x) := fun a z n => by
  have : a ≠ 72 := fun e => n (Or.inr (Or.inr (Or.inl e)))
  rw [v_u_h this]; exact h a z n
abbrev rm_X12_towns : Room := { frames := 2, cells := 0, slots := 0, locals := 47 }
set_option maxRecDepth 20000 in
theorem c_X12_towns (G : v_G) (l : Launch) {K : Nat × v_TY} {I : Nat → Nat → Int32} {J : Nat → Nat → Int64} {R : Nat → Nat → Option Nat} (hL : Lay K R) {nn kk : Int32} : v_M G l yX12_towns cX12_towns 7 (some .int) rm_X12_towns [.ref 55, .int nn, .int kk] (K, I, J, R) (v_Qi G (fun (x : Int32) (M' : v_MM) => x = s_towns nn kk ∧ ∃ I', M' = (K, I', J, R) ∧ mJ I I')) := by
  refine v_of [some (.ref 55), some (.int nn), some (.int kk), none, none, none, none] (by decide) (Nat.le_of_ble_eq_true rfl) (Nat.le_of_ble_eq_true rfl) rfl ?_
  refine v_aload_n (pc := 0) dX12_towns_0 rfl rfl ?_
  refine v_iload_n (pc := 1) dX12_towns_1 rfl rfl ?_
  refine v_iconst (pc := 2) (v := nI 2) dX12_towns_2 (by decide) ?_
  refine v_iconst (pc := 3) (v := nI 5) dX12_towns_3 (by decide) ?_
  refine v_ci (pc := 4) (v_rV (c_X12_in G l hL) rfl kV_X12_197 (v_rcO (li_55 hL) rfl (by decide)) ⟨Nat.le_of_ble_eq_true rfl, Nat.le_of_ble_eq_true rfl⟩ ⟨Nat.le_of_ble_eq_true rfl, Nat.le_of_ble_eq_true rfl⟩ dX12_towns_4 (Nat.le_of_ble_eq_true rfl)) (fun x4 M4 h4 => ?_)
  obtain ⟨rfl, rfl⟩ := h4
  refine v_if_eqP (pc := 7) (tgt := 20) dX12_towns_7 (by decide) (fun c7 => ?_) (fun c7 => ?_)
  · have e1 : s_towns nn kk = -2 := by
      rcases x_sw 6 (by decide) nn with ⟨j, hj, rfl, e⟩ | ⟨e, -⟩
      · have hj2 : j < 2 := Nat.lt_of_not_le (fun z => c7 (by rw [Int32.le_iff_toInt_le, Int32.le_iff_toInt_le, nI_toInt (by omega), nI_toInt (by omega), nI_toInt (by omega)]; omega))
        simp only [s_towns, e]; split
        · rename_i h1 h2; cases h1; rw [if_pos hj2]
        · rfl
      · simp only [s_towns, e]
    refine v_bipush (pc := 20) (v := -2) dX12_towns_20 (by decide) ?_
    exact v_iret (pc := 22) dX12_towns_22 rfl rfl (Nat.le_of_ble_eq_true rfl) (Nat.le_of_ble_eq_true rfl) ⟨e1.symm, I, rfl, mJ_rf⟩
  · obtain ⟨n, hn, rfl, e0⟩ : ∃ n : Nat, (2 ≤ n ∧ n ≤ 5) ∧ nn = nI n ∧ x_nat nn 6 = some n := by
      have h2 := c7
      rcases x_sw 6 (by decide) nn with ⟨j, hj, rfl, e⟩ | ⟨-, z⟩
      · refine ⟨j, ?_, rfl, e⟩
        rw [Int32.le_iff_toInt_le, Int32.le_iff_toInt_le, nI_toInt (by omega), nI_toInt (by omega), nI_toInt (by omega)] at h2; omega
      · exfalso
        rw [Int32.le_iff_toInt_le, Int32.le_iff_toInt_le, nI_toInt (by omega), nI_toInt (by omega)] at h2; omega
    refine v_aload_n (pc := 10) dX12_towns_10 rfl rfl ?_
    refine v_iload_n (pc := 11) dX12_towns_11 rfl rfl ?_
    refine v_iconst (pc := 12) (v := nI 0) dX12_towns_12 (by decide) ?_
    refine v_iconst (pc := 13) (v := nI 3) dX12_towns_13 (by decide) ?_
    refine v_ci (pc := 14) (v_rV (c_X12_in G l hL) rfl kV_X12_197 (v_rcO (li_55 hL) rfl (by decide)) ⟨Nat.le_of_ble_eq_true rfl, Nat.le_of_ble_eq_true rfl⟩ ⟨Nat.le_of_ble_eq_true rfl, Nat.le_of_ble_eq_true rfl⟩ dX12_towns_14 (Nat.le_of_ble_eq_true rfl)) (fun x14 M14 h14 => ?_)
    obtain ⟨rfl, rfl⟩ := h14
    refine v_if_neP (pc := 17) (tgt := 23) dX12_towns_17 (by decide) (fun c17 => ?_) (fun c17 => ?_)
    · obtain ⟨k, hk, rfl, e2⟩ := x_nat_i (v_in_iff (m := 3) (by decide) |>.mp c17) (by decide)
      refine v_iconst (pc := 23) (v := nI 0) dX12_towns_23 (by decide) ?_
      refine v_istore_n (pc := 24) dX12_towns_24 rfl (by decide) rfl ?_
      refine v_iconst (pc := 25) (v := nI 0) dX12_towns_25 (by decide) ?_
      refine v_istore (pc := 26) dX12_towns_26 (by decide) rfl ?_
      have h15 := w_pr_lt n (by omega)
      have h10 : w_pr n ≤ 10 := by rcases (show n = 2 ∨ n = 3 ∨ n = 4 ∨ n = 5 by omega) with rfl | rfl | rfl | rfl <;> decide
      have h1k : 2 ^ w_pr n ≤ 1024 := Nat.le_trans (Nat.pow_le_pow_right (by decide) h10) (by decide)
      have hcl := cnt_le (t_ok n k)
      have key : ∀ i, i ≤ 2 ^ w_pr n → ∀ (Ii : Nat → Nat → Int32) (z5 z6 : Option Value), mJ I Ii → v_V G l yX12_towns cX12_towns 7 (some .int) rm_X12_towns (v_Qi G (fun (x : Int32) (M' : v_MM) => x = s_towns (nI n) (nI k) ∧ ∃ I', M' = (K, I', J, R) ∧ mJ I I')) 0 0 28 [some (.ref 55), some (.int (nI n)), some (.int (nI k)), some (.int (nI (cnt (t_ok n k) i))), some (.int (nI i)), z5, z6] [] (K, Ii, J, R) := by
        refine v_down (2 ^ w_pr n) (fun i hi ih => ?_)
        intro Ii z5 z6 hj
        refine v_iload (pc := 28) dX12_towns_28 rfl ?_
        refine v_iconst (pc := 30) (v := nI 1) dX12_towns_30 (by decide) ?_
        refine v_iload_n (pc := 31) dX12_towns_31 rfl rfl ?_
        refine v_iload_n (pc := 32) dX12_towns_32 rfl rfl ?_
        refine v_iconst (pc := 33) (v := nI 1) dX12_towns_33 (by decide) ?_
        refine v_isubN (pc := 34) (by omega) dX12_towns_34 ?_
        refine v_imulN (pc := 35) dX12_towns_35 ?_
        refine v_iconst (pc := 36) (v := nI 2) dX12_towns_36 (by decide) ?_
        refine v_idivN (pc := 37) (Nat.lt_of_le_of_lt (Nat.mul_le_mul (show _ ≤ 5 by omega) (show _ ≤ 4 by omega)) (by decide)) (by decide) (by decide) dX12_towns_37 ?_
        refine v_ishl (pc := 38) dX12_towns_38 ?_
        refine v_top (show nI 1 <<< (nI (n * (n - 1) / 2) &&& 31) = nI (2 ^ w_pr n) from v_shl1 (w_pr n) (by omega)) ?_
        refine v_icmp_geN (pc := 39) (tgt := 169) ⟨by omega, by omega⟩ dX12_towns_39 (by decide) (fun c39 => ?_) (fun c39 => ?_)
        · refine v_iload_n (pc := 169) dX12_towns_169 rfl rfl ?_
          exact v_iret (pc := 170) dX12_towns_170 rfl rfl (Nat.le_of_ble_eq_true rfl) (Nat.le_of_ble_eq_true rfl) ⟨by rw [show s_towns (nI n) (nI k) = if n < 2 then -2 else nI (cnt (t_ok n k) (2 ^ w_pr n)) by simp only [s_towns, e0, e2], if_neg (by omega), show i = 2 ^ w_pr n by omega], _, rfl, hj⟩
        · refine v_iconst (pc := 42) (v := nI 0) dX12_towns_42 (by decide) ?_
          refine v_istore (pc := 43) dX12_towns_43 (by decide) rfl ?_
          have l0 : ∀ q, q ≤ 5 → ∀ Iq : Nat → Nat → Int32, mJ I Iq → (∀ y, y < q → Iq 72 y = nI 0) → v_V G l yX12_towns cX12_towns 7 (some .int) rm_X12_towns (v_Qi G (fun (x : Int32) (M' : v_MM) => x = s_towns (nI n) (nI k) ∧ ∃ I', M' = (K, I', J, R) ∧ mJ I I')) 0 0 45 [some (.ref 55), some (.int (nI n)), some (.int (nI k)), some (.int (nI (cnt (t_ok n k) i))), some (.int (nI i)), some (.int (nI q)), z6] [] (K, Iq, J, R) := by
            refine v_down 5 (fun q hq ih2 => ?_)
            intro Iq hjq hpq
            refine v_iload (pc := 45) dX12_towns_45 rfl ?_
            refine v_iconst (pc := 47) (v := nI 5) dX12_towns_47 (by decide) ?_
            refine v_icmp_geN (pc := 48) (tgt := 65) ⟨by omega, by omega⟩ dX12_towns_48 (by decide) (fun c48 => ?_) (fun c48 => ?_)
            · refine v_iconst (pc := 65) (v := nI 0) dX12_towns_65 (by decide) ?_
              refine v_istore (pc := 66) dX12_towns_66 (by decide) rfl ?_
              have la : ∀ a, a ≤ n → ∀ (Ia : Nat → Nat → Int32) (f : Nat → Nat) (z6 : Option Value), mJ I Ia → TF Ia f (t_e n a (a + 1)) i → v_V G l yX12_towns cX12_towns 7 (some .int) rm_X12_towns (v_Qi G (fun (x : Int32) (M' : v_MM) => x = s_towns (nI n) (nI k) ∧ ∃ I', M' = (K, I', J, R) ∧ mJ I I')) 0 0 68 [some (.ref 55), some (.int (nI n)), some (.int (nI k)), some (.int (nI (cnt (t_ok n k) i))), some (.int (nI i)), some (.int (nI a)), z6] [] (K, Ia, J, R) := by
                refine v_down n (fun a ha ih3 => ?_)
                intro Ia f z6 hja hf
                refine v_iload (pc := 68) dX12_towns_68 rfl ?_
                refine v_iload_n (pc := 70) dX12_towns_70 rfl rfl ?_
                refine v_icmp_geN (pc := 71) (tgt := 146) ⟨by omega, by omega⟩ dX12_towns_71 (by decide) (fun c71 => ?_) (fun c71 => ?_)
                · refine v_iload_n (pc := 146) dX12_towns_146 rfl rfl ?_
                  refine v_aload_n (pc := 147) dX12_towns_147 rfl rfl ?_
                  refine v_iload_n (pc := 148) dX12_towns_148 rfl rfl ?_
                  refine v_iload_n (pc := 149) dX12_towns_149 rfl rfl ?_
                  refine v_ci (pc := 150) (v_rV (c_X12_isLawful G l hL hf.1 hf.2.1 ⟨by omega, by omega⟩) rfl kV_X12_341 (v_rcO (li_55 hL) rfl (by decide)) ⟨Nat.le_of_ble_eq_true rfl, Nat.le_of_ble_eq_true rfl⟩ ⟨Nat.le_of_ble_eq_true rfl, Nat.le_of_ble_eq_true rfl⟩ dX12_towns_150 (Nat.le_of_ble_eq_true rfl)) (fun x150 M150 h150 => ?_)
                  obtain ⟨rfl, rfl⟩ := h150
                  refine v_if_eqP (pc := 153) (tgt := 160) dX12_towns_153 (by decide) (fun c153 => ?_) (fun c153 => ?_)
                  · refine v_iconst (pc := 160) (v := nI 0) dX12_towns_160 (by decide) ?_
                    refine v_iaddN (pc := 161) dX12_towns_161 ?_
                    refine v_istore_n (pc := 162) dX12_towns_162 rfl (by decide) rfl ?_
                    refine v_iincN (pc := 163) (b := 1) dX12_towns_163 rfl (by decide) (by decide) rfl ?_
                    refine v_goto (pc := 166) (tgt := 28) dX12_towns_166 (by decide) ?_
                    have ok : t_ok n k i = true ↔ _ := t_ok_iff (k := k) (fun x y => by rw [hf.2.2 x y, show a = n by omega, t_en]; rfl)
                    have goon := fun z5 z6 => ih (i + 1) (by omega) (by omega) Ia z5 z6 hja
                    have ee : cnt (t_ok n k) (i + 1) = cnt (t_ok n k) i + if t_ok n k i = true then 1 else 0 := rfl
                    rw [ee] at goon
                    first
                      | (rw [if_pos (ok.mpr c153)] at goon; exact goon _ _)
                      | (rw [if_neg (fun z => c153 (ok.mp z))] at goon; exact goon _ _)
                  · refine v_iconst (pc := 156) (v := nI 1) dX12_towns_156 (by decide) ?_
                    refine v_goto (pc := 157) (tgt := 161) dX12_towns_157 (by decide) ?_
                    refine v_iaddN (pc := 161) dX12_towns_161 ?_
                    refine v_istore_n (pc := 162) dX12_towns_162 rfl (by decide) rfl ?_
                    refine v_iincN (pc := 163) (b := 1) dX12_towns_163 rfl (by decide) (by decide) rfl ?_
                    refine v_goto (pc := 166) (tgt := 28) dX12_towns_166 (by decide) ?_
                    have ok : t_ok n k i = true ↔ _ := t_ok_iff (k := k) (fun x y => by rw [hf.2.2 x y, show a = n by omega, t_en]; rfl)
                    have goon := fun z5 z6 => ih (i + 1) (by omega) (by omega) Ia z5 z6 hja
                    have ee : cnt (t_ok n k) (i + 1) = cnt (t_ok n k) i + if t_ok n k i = true then 1 else 0 := rfl
                    rw [ee] at goon
                    first
                      | (rw [if_pos (ok.mpr c153)] at goon; exact goon _ _)
                      | (rw [if_neg (fun z => c153 (ok.mp z))] at goon; exact goon _ _)
                · refine v_iload (pc := 74) dX12_towns_74 rfl ?_
                  refine v_iconst (pc := 76) (v := nI 1) dX12_towns_76 (by decide) ?_
                  refine v_iaddN (pc := 77) dX12_towns_77 ?_
                  refine v_istore (pc := 78) dX12_towns_78 (by decide) rfl ?_
                  have lb : ∀ d, d ≤ n → a + 1 ≤ d → ∀ (Id : Nat → Nat → Int32) (f : Nat → Nat), mJ I Id → TF Id f (t_e n a d) i → v_V G l yX12_towns cX12_towns 7 (some .int) rm_X12_towns (v_Qi G (fun (x : Int32) (M' : v_MM) => x = s_towns (nI n) (nI k) ∧ ∃ I', M' = (K, I', J, R) ∧ mJ I I')) 0 0 80 [some (.ref 55), some (.int (nI n)), some (.int (nI k)), some (.int (nI (cnt (t_ok n k) i))), some (.int (nI i)), some (.int (nI a)), some (.int (nI d))] [] (K, Id, J, R) := by
                    refine v_down n (fun d hd ih4 => ?_)
                    intro hda Id f hjd hf
                    refine v_iload (pc := 80) dX12_towns_80 rfl ?_
                    refine v_iload_n (pc := 82) dX12_towns_82 rfl rfl ?_
                    refine v_icmp_geN (pc := 83) (tgt := 140) ⟨by omega, by omega⟩ dX12_towns_83 (by decide) (fun c83 => ?_) (fun c83 => ?_)
                    · refine v_iincN (pc := 140) (b := 1) dX12_towns_140 rfl (by decide) (by decide) rfl ?_
                      refine v_goto (pc := 143) (tgt := 68) dX12_towns_143 (by decide) ?_
                      exact ih3 (a + 1) (by omega) (by omega) Id f _ hjd ⟨hf.1, hf.2.1, fun x y => by rw [hf.2.2 x y, show d = n by omega, t_es]⟩
                    · have hpo : w_po a d < 15 := by
                        rw [w_po, if_pos (by omega)]
                        rcases (show d = 1 ∨ d = 2 ∨ d = 3 ∨ d = 4 by omega) with rfl | rfl | rfl | rfl <;> omega
                      refine v_aload_n (pc := 86) dX12_towns_86 rfl rfl ?_
                      refine v_iload (pc := 87) dX12_towns_87 rfl ?_
                      refine v_aload_n (pc := 89) dX12_towns_89 rfl rfl ?_
                      refine v_iload (pc := 90) dX12_towns_90 rfl ?_
                      refine v_iload (pc := 92) dX12_towns_92 rfl ?_
                      refine v_ci (pc := 94) (v_rV (c_X12_pairOf G l hL ⟨by omega, by omega, by omega⟩) rfl kV_X12_225 (v_rcO (li_55 hL) rfl (by decide)) ⟨Nat.le_of_ble_eq_true rfl, Nat.le_of_ble_eq_true rfl⟩ ⟨Nat.le_of_ble_eq_true rfl, Nat.le_of_ble_eq_true rfl⟩ dX12_towns_94 (Nat.le_of_ble_eq_true rfl)) (fun x94 M94 h94 => ?_)
                      obtain ⟨rfl, rfl⟩ := h94
                      refine v_ci (pc := 97) (v_rV (c_X12_has G l hL (by have : w_po a d < 15 := hpo; omega)) rfl kV_X12_217 (v_rcO (li_55 hL) rfl (by decide)) ⟨Nat.le_of_ble_eq_true rfl, Nat.le_of_ble_eq_true rfl⟩ ⟨Nat.le_of_ble_eq_true rfl, Nat.le_of_ble_eq_true rfl⟩ dX12_towns_97 (Nat.le_of_ble_eq_true rfl)) (fun x97 M97 h97 => ?_)
                      obtain ⟨rfl, rfl⟩ := h97
                      refine v_if_neP (pc := 100) (tgt := 106) dX12_towns_100 (by decide) (fun c100 => ?_) (fun c100 => ?_)
                      · rw [w_bt (by omega)] at c100
                        refine v_aload_n (pc := 106) dX12_towns_106 rfl rfl ?_
                        refine v_getH (pc := 107) fg_X12_111_12 dX12_towns_107 (li_55 hL) (lr_55_33 hL) ?_
                        refine v_iload (pc := 110) dX12_towns_110 rfl ?_
                        refine v_dup2 (pc := 112) dX12_towns_112 rfl rfl ?_
                        refine v_ialoadN (pc := 113) dX12_towns_113 (li_72 hL) ⟨by omega, by omega⟩ (hf.1 a (by omega)) ?_
                        refine v_iconst (pc := 114) (v := nI 1) dX12_towns_114 (by decide) ?_
                        refine v_iload (pc := 115) dX12_towns_115 rfl ?_
                        refine v_ishl (pc := 117) dX12_towns_117 ?_
                        refine v_top (v_shl1 _ (by omega)) ?_
                        refine v_ior (pc := 118) dX12_towns_118 ?_
                        refine v_top (nx_or _ _) ?_
                        refine v_iastoreN (pc := 119) dX12_towns_119 (li_72 hL) ⟨by omega, by omega⟩ ?_
                        refine v_aload_n (pc := 120) dX12_towns_120 rfl rfl ?_
                        refine v_getH (pc := 121) fg_X12_111_12 dX12_towns_121 (li_55 hL) (lr_55_33 hL) ?_
                        refine v_iload (pc := 124) dX12_towns_124 rfl ?_
                        refine v_dup2 (pc := 126) dX12_towns_126 rfl rfl ?_
                        refine v_ialoadN (pc := 127) dX12_towns_127 (li_72 hL) ⟨by omega, by omega⟩ ((v_u_k (by omega)).trans (hf.1 d (by omega))) ?_
                        refine v_iconst (pc := 128) (v := nI 1) dX12_towns_128 (by decide) ?_
                        refine v_iload (pc := 129) dX12_towns_129 rfl ?_
                        refine v_ishl (pc := 131) dX12_towns_131 ?_
                        refine v_top (v_shl1 _ (by omega)) ?_
                        refine v_ior (pc := 132) dX12_towns_132 ?_
                        refine v_top (nx_or _ _) ?_
                        refine v_iastoreN (pc := 133) dX12_towns_133 (li_72 hL) ⟨by omega, by omega⟩ ?_
                        refine v_iincN (pc := 134) (b := 1) dX12_towns_134 rfl (by decide) (by decide) rfl ?_
                        refine v_goto (pc := 137) (tgt := 80) dX12_towns_137 (by decide) ?_
                        first
                          | exact ih4 (d + 1) (by omega) (by omega) (by omega) _ _ (mJ_pl (mJ_pl hjd)) (TF_up hf (by omega) (by omega) c100 (by omega))
                          | exact ih4 (d + 1) (by omega) (by omega) (by omega) Id f hjd ⟨hf.1, hf.2.1, t_up0 hf.2.2 c100⟩
                      · rw [w_bt (by omega)] at c100
                        refine v_goto (pc := 103) (tgt := 134) dX12_towns_103 (by decide) ?_
                        refine v_iincN (pc := 134) (b := 1) dX12_towns_134 rfl (by decide) (by decide) rfl ?_
                        refine v_goto (pc := 137) (tgt := 80) dX12_towns_137 (by decide) ?_
                        first
                          | exact ih4 (d + 1) (by omega) (by omega) (by omega) _ _ (mJ_pl (mJ_pl hjd)) (TF_up hf (by omega) (by omega) c100 (by omega))
                          | exact ih4 (d + 1) (by omega) (by omega) (by omega) Id f hjd ⟨hf.1, hf.2.1, t_up0 hf.2.2 c100⟩
                  exact lb (a + 1) (by omega) (by omega) Ia f hja hf
              exact la 0 (by omega) Iq (fun _ => 0) _ hjq ⟨fun y hy => hpq y (by omega), fun _ => (by show 0 < 64; decide), fun x y => by rw [t_e0, Nat.zero_testBit]; rfl⟩
            · refine v_aload_n (pc := 51) dX12_towns_51 rfl rfl ?_
              refine v_getH (pc := 52) fg_X12_111_12 dX12_towns_52 (li_55 hL) (lr_55_33 hL) ?_
              refine v_iload (pc := 55) dX12_towns_55 rfl ?_
              refine v_iconst (pc := 57) (v := nI 0) dX12_towns_57 (by decide) ?_
              refine v_iastoreN (pc := 58) dX12_towns_58 (li_72 hL) ⟨by omega, by omega⟩ ?_
              refine v_iincN (pc := 59) (b := 1) dX12_towns_59 rfl (by decide) (by decide) rfl ?_
              refine v_goto (pc := 62) (tgt := 45) dX12_towns_62 (by decide) ?_
              exact ih2 (q + 1) (by omega) (by omega) _ (mJ_pl hjq) (fun y hy => by rcases Nat.lt_succ_iff_lt_or_eq.mp hy with z | z; rw [v_u_k (by omega)]; exact hpq y z; subst z; exact v_u_same)
          exact l0 0 (by omega) Ii hj (fun y hy => absurd hy (by omega))
      exact key 0 (Nat.zero_le _) I none none mJ_rf
    · have e1 : s_towns (nI n) kk = -2 := by simp only [s_towns, e0, x_nat_n (fun z => c17 (v_in_iff (m := 3) (by decide) |>.mpr z))]
      refine v_bipush (pc := 20) (v := -2) dX12_towns_20 (by decide) ?_
      exact v_iret (pc := 22) dX12_towns_22 rfl rfl (Nat.le_of_ble_eq_true rfl) (Nat.le_of_ble_eq_true rfl) ⟨e1.symm, I, rfl, mJ_rf⟩
