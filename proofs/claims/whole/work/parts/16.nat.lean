/-! ROWS OVER NUMBERS: ints that are nI of something; answers that are truths -/
noncomputable def v_p (P : Prop) : Int32 := @ite Int32 P (Classical.propDecidable P) 1 0
theorem v_p_t {P : Prop} (h : P) : v_p P = 1 := if_pos h
theorem v_p_f {P : Prop} (h : ¬ P) : v_p P = 0 := if_neg h
theorem v_pT {P : Prop} (h : ¬ v_p P = 0) : P := Classical.byContradiction fun q => h (v_p_f q)
theorem v_pF {P : Prop} (h : v_p P = 0) : ¬ P := fun q => absurd ((v_p_t q).symm.trans h) (by decide)
theorem v_p_c {P Q : Prop} (h : P ↔ Q) : v_p P = v_p Q := by rw [propext h]
theorem v_p_z {ty : FieldType} {P : Prop} (hty : ty = .boolean) : narrow ty (.int (v_p P)) = .int (v_p P) := by
  subst hty
  by_cases h : P
  · rw [v_p_t h]; rfl
  · rw [v_p_f h]; rfl
theorem v_p_fit {P : Prop} : fits .boolean (.int (v_p P)) = true := by
  by_cases h : P
  · rw [v_p_t h]; rfl
  · rw [v_p_f h]; rfl
theorem v_p_nar {P : Prop} : vp_nar .boolean (v_p P) = v_p P := by
  by_cases h : P
  · rw [v_p_t h]; rfl
  · rw [v_p_f h]; rfl
theorem v_down (n : Nat) {P : Nat → Prop} (h : ∀ i, i ≤ n → (∀ j, i < j → j ≤ n → P j) → P i) : ∀ i, i ≤ n → P i := by
  have key : ∀ d i, i + d = n → P i := by
    intro d
    induction d using Nat.strongRecOn with
    | _ d ih =>
      intro i hi
      exact h i (by omega) (fun j h1 h2 => ih (n - j) (by omega) j (by omega))
  exact fun i hi => key (n - i) i (by omega)
/-- downward, by a measure that falls -/
theorem v_meas {σ : Type} (μ : σ → Nat) {P : σ → Prop} (h : ∀ s, (∀ t, μ t < μ s → P t) → P s) : ∀ s, P s := by
  have key : ∀ d s, μ s = d → P s := by
    intro d
    induction d using Nat.strongRecOn with
    | _ d ih =>
      intro s hs
      exact h s (fun t ht => ih (μ t) (by omega) t rfl)
  exact fun s => key (μ s) s rfl
theorem v_in_of {i : Int32} {n : Nat} (h : vp_in i n) (hn : n < 2 ^ 31) : ∃ j : Nat, j < n ∧ i = nI j := vp_in_of h hn
theorem v_in_iff {x : Int32} {m : Nat} (hm : m < 2 ^ 31 - 1) : (nI 0 ≤ x ∧ x ≤ nI m) ↔ vp_in x (m + 1) := by
  rw [vp_in_iff, Int32.le_iff_toInt_le, Int32.le_iff_toInt_le, nI_toInt (by omega), nI_toInt (by omega)]
  constructor
  · rintro ⟨h1, h2⟩; exact ⟨by omega, by omega⟩
  · rintro ⟨h1, h2⟩; exact ⟨by omega, by omega⟩
theorem v_nI_eq {a b : Nat} (ha : a < 2 ^ 31) (hb : b < 2 ^ 31) : nI a = nI b ↔ a = b := nI_eq ha hb
theorem v_nI0 {a : Nat} (ha : a < 2 ^ 31) : nI a = 0 ↔ a = 0 := by
  rw [show (0 : Int32) = nI 0 from rfl]; exact nI_eq ha (by omega)
section VROWS7
variable {G : v_G} {l : Launch} {y : MethodName} {cc : ByteArray} {nL : Nat} {rt : Option FieldType} {Z : Room} {Qc : Array Value → State → Outcome → State → Prop} {cells slots pc : Nat} {lv : List (Option Value)} {st : List Value} {M : v_MM}
variable {K : Nat × v_TY} {I : Nat → Nat → Int32} {J : Nat → Nat → Int64} {R : Nat → Nat → Option Nat} {h n : Nat}
/-- the int on top, by another name -/
theorem v_top {x z : Int32} (e : x = z) (k : v_V G l y cc nL rt Z Qc cells slots pc lv (.int z :: st) M) : v_V G l y cc nL rt Z Qc cells slots pc lv (.int x :: st) M := by rw [e]; exact k
theorem v_topl {x z : Int64} (e : x = z) (k : v_V G l y cc nL rt Z Qc cells slots pc lv (.long z :: st) M) : v_V G l y cc nL rt Z Qc cells slots pc lv (.long x :: st) M := by rw [e]; exact k
theorem v_mem {M' : v_MM} (e : M = M') (k : v_V G l y cc nL rt Z Qc cells slots pc lv st M') : v_V G l y cc nL rt Z Qc cells slots pc lv st M := by rw [e]; exact k
theorem v_lvs {lv' : List (Option Value)} (e : lv = lv') (k : v_V G l y cc nL rt Z Qc cells slots pc lv' st M) : v_V G l y cc nL rt Z Qc cells slots pc lv st M := by rw [e]; exact k
theorem v_getH {idx ci k h' : Nat} (hg : v_fg y.cls idx ci k true) (hd : decode cc pc = .ok (.getfield idx, 3)) (hi : v_is K h ci n) (hr : R h k = some h') (kk : v_V G l y cc nL rt Z Qc cells slots (pc + 3) lv (.ref h' :: st) (K, I, J, R)) : v_V G l y cc nL rt Z Qc cells slots pc lv (.ref h :: st) (K, I, J, R) := v_getR hg hd hi hr kk
theorem v_getV {idx ci k : Nat} {x : Int32} (hg : v_fg y.cls idx ci k false) (hd : decode cc pc = .ok (.getfield idx, 3)) (hi : v_is K h ci n) (hx : I h k = x) (kk : v_V G l y cc nL rt Z Qc cells slots (pc + 3) lv (.int x :: st) (K, I, J, R)) : v_V G l y cc nL rt Z Qc cells slots pc lv (.ref h :: st) (K, I, J, R) := by
  subst hx; exact v_getI hg hd hi kk
theorem v_putH {idx ci k : Nat} {ty : FieldType} {fin : Bool} {r : Nat} (hg : v_pg y.cls idx ci k true ty fin) (hin : fin = true → y.name = "<init>") (hd : decode cc pc = .ok (.putfield idx, 3)) (hi : v_is K h ci n) (hn : ∀ w : Value, narrow ty w = w) (hfit : fits ty (.ref (v_ad G r)) = true) (kk : v_V G l y cc nL rt Z Qc cells slots (pc + 3) lv st (K, I, J, v_u R h k (some r))) : v_V G l y cc nL rt Z Qc cells slots pc lv (.ref r :: .ref h :: st) (K, I, J, R) := v_putR (r := some r) hg hin hd hi hn hfit kk
theorem v_aaloadH {i : Int32} {k h' : Nat} (hd : decode cc pc = .ok (.aaload, 1)) (hi : v_is K h k n) (hk : k = 17 ∨ k = 18) (hin : vp_in i n) (hr : R h i.toNatClampNeg = some h') (kk : v_V G l y cc nL rt Z Qc cells slots (pc + 1) lv (.ref h' :: st) (K, I, J, R)) : v_V G l y cc nL rt Z Qc cells slots pc lv (.int i :: .ref h :: st) (K, I, J, R) := v_aaload hd hi hk hin hr kk
theorem v_aretH {Post : Option Nat → v_MM → Prop} {nm : String} {r : Nat} (hd : decode cc pc = .ok (.areturn, 1)) (hrt : rt = some (.object nm)) (hc : cells ≤ Z.cells) (hs : slots ≤ Z.slots) (hq : Post (some r) M) : v_V G l y cc nL rt Z (v_Qr G Post) cells slots pc lv [.ref r] M := v_aret (r := some r) hd hrt hc hs hq
theorem v_aretN {Post : Option Nat → v_MM → Prop} {nm : String} (hd : decode cc pc = .ok (.areturn, 1)) (hrt : rt = some (.object nm)) (hc : cells ≤ Z.cells) (hs : slots ≤ Z.slots) (hq : Post none M) : v_V G l y cc nL rt Z (v_Qr G Post) cells slots pc lv [.null] M := v_aret (r := none) hd hrt hc hs hq
theorem v_iaddN {a b : Nat} (hd : decode cc pc = .ok (.iadd, 1)) (k : v_V G l y cc nL rt Z Qc cells slots (pc + 1) lv (.int (nI (a + b)) :: st) M) : v_V G l y cc nL rt Z Qc cells slots pc lv (.int (nI b) :: .int (nI a) :: st) M := v_iadd hd (by rw [nI_add]; exact k)
theorem v_imulN {a b : Nat} (hd : decode cc pc = .ok (.imul, 1)) (k : v_V G l y cc nL rt Z Qc cells slots (pc + 1) lv (.int (nI (a * b)) :: st) M) : v_V G l y cc nL rt Z Qc cells slots pc lv (.int (nI b) :: .int (nI a) :: st) M := v_imul hd (by rw [pk_mul]; exact k)
theorem v_isubN {a b : Nat} (h : b ≤ a) (hd : decode cc pc = .ok (.isub, 1)) (k : v_V G l y cc nL rt Z Qc cells slots (pc + 1) lv (.int (nI (a - b)) :: st) M) : v_V G l y cc nL rt Z Qc cells slots pc lv (.int (nI b) :: .int (nI a) :: st) M := v_isub hd (by rw [pk_sub h]; exact k)
theorem v_idivN {a b : Nat} (ha : a < 2 ^ 31) (h0 : 0 < b) (hb : b < 2 ^ 31) (hd : decode cc pc = .ok (.idiv, 1)) (k : v_V G l y cc nL rt Z Qc cells slots (pc + 1) lv (.int (nI (a / b)) :: st) M) : v_V G l y cc nL rt Z Qc cells slots pc lv (.int (nI b) :: .int (nI a) :: st) M := v_idiv hd (nI_ne0 h0 hb) (by rw [pk_div ha h0 hb]; exact k)
theorem v_iremN {a b : Nat} (ha : a < 2 ^ 31) (h0 : 0 < b) (hb : b < 2 ^ 31) (hd : decode cc pc = .ok (.irem, 1)) (k : v_V G l y cc nL rt Z Qc cells slots (pc + 1) lv (.int (nI (a % b)) :: st) M) : v_V G l y cc nL rt Z Qc cells slots pc lv (.int (nI b) :: .int (nI a) :: st) M := v_irem hd (nI_ne0 h0 hb) (by rw [pk_rem ha h0 hb]; exact k)
theorem v_ialoadN {j : Nat} {x : Int32} (hd : decode cc pc = .ok (.iaload, 1)) (hi : v_is K h 14 n) (hj : j < n ∧ n < 2 ^ 31) (hx : I h j = x) (kk : v_V G l y cc nL rt Z Qc cells slots (pc + 1) lv (.int x :: st) (K, I, J, R)) : v_V G l y cc nL rt Z Qc cells slots pc lv (.int (nI j) :: .ref h :: st) (K, I, J, R) := v_iaload hd hi (vp_in_nI hj.1 hj.2) (by rw [nI_clamp (Nat.lt_trans hj.1 hj.2), hx]; exact kk)
theorem v_baloadN {j : Nat} {x : Int32} (hd : decode cc pc = .ok (.baload, 1)) (hi : v_is K h 13 n) (hj : j < n ∧ n < 2 ^ 31) (hx : I h j = x) (kk : v_V G l y cc nL rt Z Qc cells slots (pc + 1) lv (.int x :: st) (K, I, J, R)) : v_V G l y cc nL rt Z Qc cells slots pc lv (.int (nI j) :: .ref h :: st) (K, I, J, R) := v_baload hd hi (vp_in_nI hj.1 hj.2) (by rw [nI_clamp (Nat.lt_trans hj.1 hj.2), hx]; exact kk)
theorem v_zaloadN {j : Nat} {x : Int32} (hd : decode cc pc = .ok (.baload, 1)) (hi : v_is K h 16 n) (hj : j < n ∧ n < 2 ^ 31) (hx : I h j = x) (kk : v_V G l y cc nL rt Z Qc cells slots (pc + 1) lv (.int x :: st) (K, I, J, R)) : v_V G l y cc nL rt Z Qc cells slots pc lv (.int (nI j) :: .ref h :: st) (K, I, J, R) := v_zaload hd hi (vp_in_nI hj.1 hj.2) (by rw [nI_clamp (Nat.lt_trans hj.1 hj.2), hx]; exact kk)
theorem v_laloadN {j : Nat} {x : Int64} (hd : decode cc pc = .ok (.laload, 1)) (hi : v_is K h 15 n) (hj : j < n ∧ n < 2 ^ 31) (hx : J h j = x) (kk : v_V G l y cc nL rt Z Qc cells slots (pc + 1) lv (.long x :: st) (K, I, J, R)) : v_V G l y cc nL rt Z Qc cells slots pc lv (.int (nI j) :: .ref h :: st) (K, I, J, R) := v_laload hd hi (vp_in_nI hj.1 hj.2) (by rw [nI_clamp (Nat.lt_trans hj.1 hj.2), hx]; exact kk)
theorem v_iastoreN {j : Nat} {x : Int32} (hd : decode cc pc = .ok (.iastore, 1)) (hi : v_is K h 14 n) (hj : j < n ∧ n < 2 ^ 31) (kk : v_V G l y cc nL rt Z Qc cells slots (pc + 1) lv st (K, v_u I h j x, J, R)) : v_V G l y cc nL rt Z Qc cells slots pc lv (.int x :: .int (nI j) :: .ref h :: st) (K, I, J, R) := v_iastore hd hi (vp_in_nI hj.1 hj.2) (by rw [nI_clamp (Nat.lt_trans hj.1 hj.2)]; exact kk)
theorem v_bastoreN {j : Nat} {x : Int32} (hd : decode cc pc = .ok (.bastore, 1)) (hi : v_is K h 13 n) (hj : j < n ∧ n < 2 ^ 31) (kk : v_V G l y cc nL rt Z Qc cells slots (pc + 1) lv st (K, v_u I h j (vp_nar .byte x), J, R)) : v_V G l y cc nL rt Z Qc cells slots pc lv (.int x :: .int (nI j) :: .ref h :: st) (K, I, J, R) := v_bastore hd hi (vp_in_nI hj.1 hj.2) (by rw [nI_clamp (Nat.lt_trans hj.1 hj.2)]; exact kk)
theorem v_zastoreN {j : Nat} {x z : Int32} (hd : decode cc pc = .ok (.bastore, 1)) (hi : v_is K h 16 n) (hj : j < n ∧ n < 2 ^ 31) (hz : vp_nar .boolean x = z) (kk : v_V G l y cc nL rt Z Qc cells slots (pc + 1) lv st (K, v_u I h j z, J, R)) : v_V G l y cc nL rt Z Qc cells slots pc lv (.int x :: .int (nI j) :: .ref h :: st) (K, I, J, R) := v_zastore hd hi (vp_in_nI hj.1 hj.2) (by rw [nI_clamp (Nat.lt_trans hj.1 hj.2), hz]; exact kk)
theorem v_lastoreN {j : Nat} {x : Int64} (hd : decode cc pc = .ok (.lastore, 1)) (hi : v_is K h 15 n) (hj : j < n ∧ n < 2 ^ 31) (kk : v_V G l y cc nL rt Z Qc cells slots (pc + 1) lv st (K, I, v_u J h j x, R)) : v_V G l y cc nL rt Z Qc cells slots pc lv (.long x :: .int (nI j) :: .ref h :: st) (K, I, J, R) := v_lastore hd hi (vp_in_nI hj.1 hj.2) (by rw [nI_clamp (Nat.lt_trans hj.1 hj.2)]; exact kk)
theorem v_aaloadHN {j k h' : Nat} (hd : decode cc pc = .ok (.aaload, 1)) (hi : v_is K h k n) (hk : k = 17 ∨ k = 18) (hj : j < n ∧ n < 2 ^ 31) (hr : R h j = some h') (kk : v_V G l y cc nL rt Z Qc cells slots (pc + 1) lv (.ref h' :: st) (K, I, J, R)) : v_V G l y cc nL rt Z Qc cells slots pc lv (.int (nI j) :: .ref h :: st) (K, I, J, R) := v_aaloadH hd hi hk (vp_in_nI hj.1 hj.2) (by rw [nI_clamp (Nat.lt_trans hj.1 hj.2)]; exact hr) kk
theorem v_icmp_geN {a b : Nat} {off : Int} {tgt : Nat} (hb : a < 2 ^ 31 ∧ b < 2 ^ 31) (hd : decode cc pc = .ok (.if_icmp .ge off, 3)) (ht : (pc : Int) + off = (tgt : Int)) (kt : b ≤ a → v_V G l y cc nL rt Z Qc cells slots tgt lv st M) (kf : a < b → v_V G l y cc nL rt Z Qc cells slots (pc + 3) lv st M) : v_V G l y cc nL rt Z Qc cells slots pc lv (.int (nI b) :: .int (nI a) :: st) M := v_icmp_ge hd ht (fun q => kt ((nI_leI hb.2 hb.1).mp q)) (fun q => kf (Nat.not_le.mp fun z => q ((nI_leI hb.2 hb.1).mpr z)))
theorem v_icmp_ltN {a b : Nat} {off : Int} {tgt : Nat} (hb : a < 2 ^ 31 ∧ b < 2 ^ 31) (hd : decode cc pc = .ok (.if_icmp .lt off, 3)) (ht : (pc : Int) + off = (tgt : Int)) (kt : a < b → v_V G l y cc nL rt Z Qc cells slots tgt lv st M) (kf : b ≤ a → v_V G l y cc nL rt Z Qc cells slots (pc + 3) lv st M) : v_V G l y cc nL rt Z Qc cells slots pc lv (.int (nI b) :: .int (nI a) :: st) M := v_icmp_lt hd ht (fun q => kt ((nI_ltI hb.1 hb.2).mp q)) (fun q => kf (Nat.not_lt.mp fun z => q ((nI_ltI hb.1 hb.2).mpr z)))
theorem v_icmp_gtN {a b : Nat} {off : Int} {tgt : Nat} (hb : a < 2 ^ 31 ∧ b < 2 ^ 31) (hd : decode cc pc = .ok (.if_icmp .gt off, 3)) (ht : (pc : Int) + off = (tgt : Int)) (kt : b < a → v_V G l y cc nL rt Z Qc cells slots tgt lv st M) (kf : a ≤ b → v_V G l y cc nL rt Z Qc cells slots (pc + 3) lv st M) : v_V G l y cc nL rt Z Qc cells slots pc lv (.int (nI b) :: .int (nI a) :: st) M := v_icmp_gt hd ht (fun q => kt ((nI_ltI hb.2 hb.1).mp q)) (fun q => kf (Nat.not_lt.mp fun z => q ((nI_ltI hb.2 hb.1).mpr z)))
theorem v_icmp_leN {a b : Nat} {off : Int} {tgt : Nat} (hb : a < 2 ^ 31 ∧ b < 2 ^ 31) (hd : decode cc pc = .ok (.if_icmp .le off, 3)) (ht : (pc : Int) + off = (tgt : Int)) (kt : a ≤ b → v_V G l y cc nL rt Z Qc cells slots tgt lv st M) (kf : b < a → v_V G l y cc nL rt Z Qc cells slots (pc + 3) lv st M) : v_V G l y cc nL rt Z Qc cells slots pc lv (.int (nI b) :: .int (nI a) :: st) M := v_icmp_le hd ht (fun q => kt ((nI_leI hb.1 hb.2).mp q)) (fun q => kf (Nat.not_le.mp fun z => q ((nI_leI hb.1 hb.2).mpr z)))
theorem v_icmp_eqN {a b : Nat} {off : Int} {tgt : Nat} (hb : a < 2 ^ 31 ∧ b < 2 ^ 31) (hd : decode cc pc = .ok (.if_icmp .eq off, 3)) (ht : (pc : Int) + off = (tgt : Int)) (kt : a = b → v_V G l y cc nL rt Z Qc cells slots tgt lv st M) (kf : a ≠ b → v_V G l y cc nL rt Z Qc cells slots (pc + 3) lv st M) : v_V G l y cc nL rt Z Qc cells slots pc lv (.int (nI b) :: .int (nI a) :: st) M := v_icmp_eq hd ht (fun q => kt ((nI_eq hb.1 hb.2).mp q)) (fun q => kf (fun z => q ((nI_eq hb.1 hb.2).mpr z)))
theorem v_icmp_neN {a b : Nat} {off : Int} {tgt : Nat} (hb : a < 2 ^ 31 ∧ b < 2 ^ 31) (hd : decode cc pc = .ok (.if_icmp .ne off, 3)) (ht : (pc : Int) + off = (tgt : Int)) (kt : a ≠ b → v_V G l y cc nL rt Z Qc cells slots tgt lv st M) (kf : a = b → v_V G l y cc nL rt Z Qc cells slots (pc + 3) lv st M) : v_V G l y cc nL rt Z Qc cells slots pc lv (.int (nI b) :: .int (nI a) :: st) M := v_icmp_ne hd ht (fun q => kt (fun z => q ((nI_eq hb.1 hb.2).mpr z))) (fun q => kf ((nI_eq hb.1 hb.2).mp q))
theorem v_if_eqN {a : Nat} {off : Int} {tgt : Nat} (ha : a < 2 ^ 31) (hd : decode cc pc = .ok (.ifCond .eq off, 3)) (ht : (pc : Int) + off = (tgt : Int)) (kt : a = 0 → v_V G l y cc nL rt Z Qc cells slots tgt lv st M) (kf : a ≠ 0 → v_V G l y cc nL rt Z Qc cells slots (pc + 3) lv st M) : v_V G l y cc nL rt Z Qc cells slots pc lv (.int (nI a) :: st) M := v_if_eq hd ht (fun q => kt ((v_nI0 ha).mp q)) (fun q => kf (fun z => q ((v_nI0 ha).mpr z)))
theorem v_if_neN {a : Nat} {off : Int} {tgt : Nat} (ha : a < 2 ^ 31) (hd : decode cc pc = .ok (.ifCond .ne off, 3)) (ht : (pc : Int) + off = (tgt : Int)) (kt : a ≠ 0 → v_V G l y cc nL rt Z Qc cells slots tgt lv st M) (kf : a = 0 → v_V G l y cc nL rt Z Qc cells slots (pc + 3) lv st M) : v_V G l y cc nL rt Z Qc cells slots pc lv (.int (nI a) :: st) M := v_if_ne hd ht (fun q => kt (fun z => q ((v_nI0 ha).mpr z))) (fun q => kf ((v_nI0 ha).mp q))
theorem v_if_leN {a : Nat} {off : Int} {tgt : Nat} (ha : a < 2 ^ 31) (hd : decode cc pc = .ok (.ifCond .le off, 3)) (ht : (pc : Int) + off = (tgt : Int)) (kt : a = 0 → v_V G l y cc nL rt Z Qc cells slots tgt lv st M) (kf : a ≠ 0 → v_V G l y cc nL rt Z Qc cells slots (pc + 3) lv st M) : v_V G l y cc nL rt Z Qc cells slots pc lv (.int (nI a) :: st) M := v_if_le hd ht (fun q => kt (by
    rcases Nat.eq_zero_or_pos a with z | z
    · exact z
    · exact absurd q (nI_nle z ha))) (fun q => kf (fun z => q (by subst z; decide)))
theorem v_if_ltN {a : Nat} {off : Int} {tgt : Nat} (ha : a < 2 ^ 31) (hd : decode cc pc = .ok (.ifCond .lt off, 3)) (ht : (pc : Int) + off = (tgt : Int)) (kf : v_V G l y cc nL rt Z Qc cells slots (pc + 3) lv st M) : v_V G l y cc nL rt Z Qc cells slots pc lv (.int (nI a) :: st) M := v_if_lt hd ht (fun q => absurd q (nI_pos ha)) (fun _ => kf)
theorem v_if_geN {a : Nat} {off : Int} {tgt : Nat} (ha : a < 2 ^ 31) (hd : decode cc pc = .ok (.ifCond .ge off, 3)) (ht : (pc : Int) + off = (tgt : Int)) (kt : v_V G l y cc nL rt Z Qc cells slots tgt lv st M) : v_V G l y cc nL rt Z Qc cells slots pc lv (.int (nI a) :: st) M := v_if_ge hd ht (fun _ => kt) (fun q => absurd (nI_pos' ha) q)
theorem v_if_eqP {P : Prop} {off : Int} {tgt : Nat} (hd : decode cc pc = .ok (.ifCond .eq off, 3)) (ht : (pc : Int) + off = (tgt : Int)) (kt : ¬ P → v_V G l y cc nL rt Z Qc cells slots tgt lv st M) (kf : P → v_V G l y cc nL rt Z Qc cells slots (pc + 3) lv st M) : v_V G l y cc nL rt Z Qc cells slots pc lv (.int (v_p P) :: st) M := v_if_eq hd ht (fun q => kt (v_pF q)) (fun q => kf (v_pT q))
theorem v_if_neP {P : Prop} {off : Int} {tgt : Nat} (hd : decode cc pc = .ok (.ifCond .ne off, 3)) (ht : (pc : Int) + off = (tgt : Int)) (kt : P → v_V G l y cc nL rt Z Qc cells slots tgt lv st M) (kf : ¬ P → v_V G l y cc nL rt Z Qc cells slots (pc + 3) lv st M) : v_V G l y cc nL rt Z Qc cells slots pc lv (.int (v_p P) :: st) M := v_if_ne hd ht (fun q => kt (v_pT q)) (fun q => kf (v_pF q))
theorem v_iincN {i a : Nat} {n : Int} {b : Nat} (hd : decode cc pc = .ok (.iinc i n, 3)) (hl : lv[i]? = some (some (.int (nI a)))) (hv : Int32.ofInt n = nI b) (hn : i < nL) (hc : v_c1 lv i = true) (k : v_V G l y cc nL rt Z Qc cells slots (pc + 3) (lv.set i (some (.int (nI (a + b))))) st M) : v_V G l y cc nL rt Z Qc cells slots pc lv st M := v_iinc hd hl hv hn hc (by rw [nI_add]; exact k)
end VROWS7
