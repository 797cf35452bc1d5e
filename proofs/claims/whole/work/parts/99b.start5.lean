/-! THE START: what the Statement gives -/
def nwL : List Cond := flatC (Jvm.Cond.and given_1 narrow_1)
theorem nw_i {w : Cond} (i : Nat) (h : decide (nwL[i]? = some w) = true) : w ∈ nwL := List.mem_of_getElem? (of_decide_eq_true h)
theorem v_t1 {w : Cond} (i : Nat) (h : decide (tables_1_1[i]? = some w) = true) : w ∈ lw_tbl := List.mem_append_right _ (List.mem_append_left _ (List.mem_of_getElem? (of_decide_eq_true h)))
theorem v_t2 {w : Cond} (i : Nat) (h : decide (tables_1_2[i]? = some w) = true) : w ∈ lw_tbl := List.mem_append_right _ (List.mem_append_right _ (List.mem_append_left _ (List.mem_of_getElem? (of_decide_eq_true h))))
theorem v_t3 {w : Cond} (i : Nat) (h : decide (tables_1_3[i]? = some w) = true) : w ∈ lw_tbl := List.mem_append_right _ (List.mem_append_right _ (List.mem_append_right _ (List.mem_append_left _ (List.mem_of_getElem? (of_decide_eq_true h)))))
theorem v_t4 {w : Cond} (i : Nat) (h : decide (tables_1_4[i]? = some w) = true) : w ∈ lw_tbl := List.mem_append_right _ (List.mem_append_right _ (List.mem_append_right _ (List.mem_append_right _ (List.mem_append_left _ (List.mem_of_getElem? (of_decide_eq_true h))))))
theorem v_t5 {w : Cond} (i : Nat) (h : decide (tables_1_5[i]? = some w) = true) : w ∈ lw_tbl := List.mem_append_right _ (List.mem_append_right _ (List.mem_append_right _ (List.mem_append_right _ (List.mem_append_right _ (List.mem_append_left _ (List.mem_of_getElem? (of_decide_eq_true h)))))))
theorem v_t6 {w : Cond} (i : Nat) (h : decide (tables_1_6[i]? = some w) = true) : w ∈ lw_tbl := List.mem_append_right _ (List.mem_append_right _ (List.mem_append_right _ (List.mem_append_right _ (List.mem_append_right _ (List.mem_append_right _ (List.mem_append_left _ (List.mem_of_getElem? (of_decide_eq_true h))))))))
theorem v_t7 {w : Cond} (i : Nat) (h : decide (tables_1_7[i]? = some w) = true) : w ∈ lw_tbl := List.mem_append_right _ (List.mem_append_right _ (List.mem_append_right _ (List.mem_append_right _ (List.mem_append_right _ (List.mem_append_right _ (List.mem_append_right _ (List.mem_of_getElem? (of_decide_eq_true h))))))))
theorem s_arr {t : FieldType} {A : Array Value} {s : State} (h : (Cond.arrayClass t).before A s = true) (hne : ∀ C, t ≠ .object C) : ∃ c : ClassId, ArrOfT s c t ∧ va_RA s c t := by
  obtain ⟨c, k, comp, h1, h2, h3⟩ := Cond.arrayClass_spec h
  refine ⟨c, fun n z => ⟨fun k h => (by cases h), k, h2, comp, h3⟩, ?_⟩
  cases t with
  | object C => exact absurd rfl (hne C)
  | _ => exact h1
theorem s_arrO {C : String} {A : Array Value} {s : State} (h : (Cond.arrayOver (.object C)).before A s = true) : ∃ c : ClassId, ArrOfT s c (.object C) ∧ va_RA s c (.object C) := by
  obtain ⟨comp, c, k, h1, h2, h3, h4, h5⟩ := Cond.arrayOver_spec h
  exact ⟨c, fun n z => ⟨fun k h => (by cases h), k, h3, comp, h4⟩, k, comp, h3, h4, h1, h5⟩
theorem s_nw {A : Array Value} {s : State} (hts : ∀ w ∈ lw_tbl, w.before A s = true) : ∀ w ∈ wsN, va_Nw w s := by
  intro w hw
  have hk := (List.mem_filter.mp hw).2
  have h0 := hts w (List.mem_filter.mp hw).1
  cases w with
  | methodLinkNest a i x hh => exact va_Nw.of rfl h0
  | fieldLinkNest a i b n d hh => exact va_Nw.of rfl h0
  | castable a b => exact va_Nw.of rfl h0
  | declares x => exact va_Nw.of rfl h0
  | arrayOver t =>
    cases t with
    | object C => exact va_AO.of h0
    | _ => cases hk
  | _ => cases hk
section START
variable {s : State} {A : Array Value} {B : Nat → Prop}
theorem s_les (hn : ∀ w ∈ nwL, w.before A s = true) (hB : ∀ a : Nat, a < s.heap.size → ¬ B a) : ∃ t : Nat, (Term.static "OneFriend" "LESSER" "[I").eval A s none [] s = some (.ref t) ∧ va_T .int t 15 v_les B s s.heap := by
  refine va_Tof (by decide) (hn _ (nw_i 6 (by decide +kernel))) (va_eqt (hn _ (nw_i 7 (by decide +kernel)))) (fun j hj => ?_) hB
  rcases (show j = 0 ∨ j = 1 ∨ j = 2 ∨ j = 3 ∨ j = 4 ∨ j = 5 ∨ j = 6 ∨ j = 7 ∨ j = 8 ∨ j = 9 ∨ j = 10 ∨ j = 11 ∨ j = 12 ∨ j = 13 ∨ j = 14 by omega) with rfl | rfl | rfl | rfl | rfl | rfl | rfl | rfl | rfl | rfl | rfl | rfl | rfl | rfl | rfl
  · exact va_eqt (hn _ (nw_i 8 (by decide +kernel)))
  · exact va_eqt (hn _ (nw_i 9 (by decide +kernel)))
  · exact va_eqt (hn _ (nw_i 10 (by decide +kernel)))
  · exact va_eqt (hn _ (nw_i 11 (by decide +kernel)))
  · exact va_eqt (hn _ (nw_i 12 (by decide +kernel)))
  · exact va_eqt (hn _ (nw_i 13 (by decide +kernel)))
  · exact va_eqt (hn _ (nw_i 14 (by decide +kernel)))
  · exact va_eqt (hn _ (nw_i 15 (by decide +kernel)))
  · exact va_eqt (hn _ (nw_i 16 (by decide +kernel)))
  · exact va_eqt (hn _ (nw_i 17 (by decide +kernel)))
  · exact va_eqt (hn _ (nw_i 18 (by decide +kernel)))
  · exact va_eqt (hn _ (nw_i 19 (by decide +kernel)))
  · exact va_eqt (hn _ (nw_i 20 (by decide +kernel)))
  · exact va_eqt (hn _ (nw_i 21 (by decide +kernel)))
  · exact va_eqt (hn _ (nw_i 22 (by decide +kernel)))
theorem s_gre (hn : ∀ w ∈ nwL, w.before A s = true) (hB : ∀ a : Nat, a < s.heap.size → ¬ B a) : ∃ t : Nat, (Term.static "OneFriend" "GREATER" "[I").eval A s none [] s = some (.ref t) ∧ va_T .int t 15 v_gre B s s.heap := by
  refine va_Tof (by decide) (hn _ (nw_i 24 (by decide +kernel))) (va_eqt (hn _ (nw_i 25 (by decide +kernel)))) (fun j hj => ?_) hB
  rcases (show j = 0 ∨ j = 1 ∨ j = 2 ∨ j = 3 ∨ j = 4 ∨ j = 5 ∨ j = 6 ∨ j = 7 ∨ j = 8 ∨ j = 9 ∨ j = 10 ∨ j = 11 ∨ j = 12 ∨ j = 13 ∨ j = 14 by omega) with rfl | rfl | rfl | rfl | rfl | rfl | rfl | rfl | rfl | rfl | rfl | rfl | rfl | rfl | rfl
  · exact va_eqt (hn _ (nw_i 26 (by decide +kernel)))
  · exact va_eqt (hn _ (nw_i 27 (by decide +kernel)))
  · exact va_eqt (hn _ (nw_i 28 (by decide +kernel)))
  · exact va_eqt (hn _ (nw_i 29 (by decide +kernel)))
  · exact va_eqt (hn _ (nw_i 30 (by decide +kernel)))
  · exact va_eqt (hn _ (nw_i 31 (by decide +kernel)))
  · exact va_eqt (hn _ (nw_i 32 (by decide +kernel)))
  · exact va_eqt (hn _ (nw_i 33 (by decide +kernel)))
  · exact va_eqt (hn _ (nw_i 34 (by decide +kernel)))
  · exact va_eqt (hn _ (nw_i 35 (by decide +kernel)))
  · exact va_eqt (hn _ (nw_i 36 (by decide +kernel)))
  · exact va_eqt (hn _ (nw_i 37 (by decide +kernel)))
  · exact va_eqt (hn _ (nw_i 38 (by decide +kernel)))
  · exact va_eqt (hn _ (nw_i 39 (by decide +kernel)))
  · exact va_eqt (hn _ (nw_i 40 (by decide +kernel)))
def s_tm (i : Nat) : Term := .string "OneFriend$Town" (([71, 77, 79, 65, 89, 101, 103] : List Nat).getD i 0)
theorem s_txt (hn : ∀ w ∈ nwL, w.before A s = true) (hB : ∀ a : Nat, a < s.heap.size → ¬ B a) : ∃ adK adV : Nat → Nat, vk_S 7 v_tln v_tby adK adV B s s.heap ∧ ∀ i : Nat, i < 7 → (s_tm i).eval A s none [] s = some (.ref (adK i)) := by
  refine vk_Sof (fun i hi => ?_) (fun i hi => ?_) (fun i hi => ?_) (fun i hi => ?_) (fun i hi => ?_) (fun i hi j hj => ?_) (fun i j hi hj hij => ?_) hB
  · rcases (show i = 0 ∨ i = 1 ∨ i = 2 ∨ i = 3 ∨ i = 4 ∨ i = 5 ∨ i = 6 by omega) with rfl | rfl | rfl | rfl | rfl | rfl | rfl <;> decide
  · rcases (show i = 0 ∨ i = 1 ∨ i = 2 ∨ i = 3 ∨ i = 4 ∨ i = 5 ∨ i = 6 by omega) with rfl | rfl | rfl | rfl | rfl | rfl | rfl
    · exact hn _ (nw_i 194 (by decide +kernel))
    · exact hn _ (nw_i 203 (by decide +kernel))
    · exact hn _ (nw_i 213 (by decide +kernel))
    · exact hn _ (nw_i 186 (by decide +kernel))
    · exact hn _ (nw_i 225 (by decide +kernel))
    · exact hn _ (nw_i 244 (by decide +kernel))
    · exact hn _ (nw_i 260 (by decide +kernel))
  · rcases (show i = 0 ∨ i = 1 ∨ i = 2 ∨ i = 3 ∨ i = 4 ∨ i = 5 ∨ i = 6 by omega) with rfl | rfl | rfl | rfl | rfl | rfl | rfl
    · exact hn _ (nw_i 195 (by decide +kernel))
    · exact hn _ (nw_i 204 (by decide +kernel))
    · exact hn _ (nw_i 214 (by decide +kernel))
    · exact hn _ (nw_i 187 (by decide +kernel))
    · exact hn _ (nw_i 226 (by decide +kernel))
    · exact hn _ (nw_i 245 (by decide +kernel))
    · exact hn _ (nw_i 261 (by decide +kernel))
  · rcases (show i = 0 ∨ i = 1 ∨ i = 2 ∨ i = 3 ∨ i = 4 ∨ i = 5 ∨ i = 6 by omega) with rfl | rfl | rfl | rfl | rfl | rfl | rfl
    · exact hn _ (nw_i 196 (by decide +kernel))
    · exact hn _ (nw_i 205 (by decide +kernel))
    · exact hn _ (nw_i 215 (by decide +kernel))
    · exact hn _ (nw_i 188 (by decide +kernel))
    · exact hn _ (nw_i 227 (by decide +kernel))
    · exact hn _ (nw_i 246 (by decide +kernel))
    · exact hn _ (nw_i 262 (by decide +kernel))
  · rcases (show i = 0 ∨ i = 1 ∨ i = 2 ∨ i = 3 ∨ i = 4 ∨ i = 5 ∨ i = 6 by omega) with rfl | rfl | rfl | rfl | rfl | rfl | rfl
    · exact hn _ (nw_i 197 (by decide +kernel))
    · exact hn _ (nw_i 206 (by decide +kernel))
    · exact hn _ (nw_i 216 (by decide +kernel))
    · exact hn _ (nw_i 189 (by decide +kernel))
    · exact hn _ (nw_i 228 (by decide +kernel))
    · exact hn _ (nw_i 247 (by decide +kernel))
    · exact hn _ (nw_i 263 (by decide +kernel))
  · rcases (show i = 0 ∨ i = 1 ∨ i = 2 ∨ i = 3 ∨ i = 4 ∨ i = 5 ∨ i = 6 by omega) with rfl | rfl | rfl | rfl | rfl | rfl | rfl
    · have hj : j < 3 := hj
      rcases (show j = 0 ∨ j = 1 ∨ j = 2 by omega) with rfl | rfl | rfl
      · exact hn _ (nw_i 198 (by decide +kernel))
      · exact hn _ (nw_i 199 (by decide +kernel))
      · exact hn _ (nw_i 200 (by decide +kernel))
    · have hj : j < 3 := hj
      rcases (show j = 0 ∨ j = 1 ∨ j = 2 by omega) with rfl | rfl | rfl
      · exact hn _ (nw_i 207 (by decide +kernel))
      · exact hn _ (nw_i 208 (by decide +kernel))
      · exact hn _ (nw_i 209 (by decide +kernel))
    · have hj : j < 4 := hj
      rcases (show j = 0 ∨ j = 1 ∨ j = 2 ∨ j = 3 by omega) with rfl | rfl | rfl | rfl
      · exact hn _ (nw_i 217 (by decide +kernel))
      · exact hn _ (nw_i 218 (by decide +kernel))
      · exact hn _ (nw_i 219 (by decide +kernel))
      · exact hn _ (nw_i 220 (by decide +kernel))
    · have hj : j < 3 := hj
      rcases (show j = 0 ∨ j = 1 ∨ j = 2 by omega) with rfl | rfl | rfl
      · exact hn _ (nw_i 190 (by decide +kernel))
      · exact hn _ (nw_i 191 (by decide +kernel))
      · exact hn _ (nw_i 192 (by decide +kernel))
    · have hj : j < 10 := hj
      rcases (show j = 0 ∨ j = 1 ∨ j = 2 ∨ j = 3 ∨ j = 4 ∨ j = 5 ∨ j = 6 ∨ j = 7 ∨ j = 8 ∨ j = 9 by omega) with rfl | rfl | rfl | rfl | rfl | rfl | rfl | rfl | rfl | rfl
      · exact hn _ (nw_i 229 (by decide +kernel))
      · exact hn _ (nw_i 230 (by decide +kernel))
      · exact hn _ (nw_i 231 (by decide +kernel))
      · exact hn _ (nw_i 232 (by decide +kernel))
      · exact hn _ (nw_i 233 (by decide +kernel))
      · exact hn _ (nw_i 234 (by decide +kernel))
      · exact hn _ (nw_i 235 (by decide +kernel))
      · exact hn _ (nw_i 236 (by decide +kernel))
      · exact hn _ (nw_i 237 (by decide +kernel))
      · exact hn _ (nw_i 238 (by decide +kernel))
    · have hj : j < 6 := hj
      rcases (show j = 0 ∨ j = 1 ∨ j = 2 ∨ j = 3 ∨ j = 4 ∨ j = 5 by omega) with rfl | rfl | rfl | rfl | rfl | rfl
      · exact hn _ (nw_i 248 (by decide +kernel))
      · exact hn _ (nw_i 249 (by decide +kernel))
      · exact hn _ (nw_i 250 (by decide +kernel))
      · exact hn _ (nw_i 251 (by decide +kernel))
      · exact hn _ (nw_i 252 (by decide +kernel))
      · exact hn _ (nw_i 253 (by decide +kernel))
    · have hj : j < 3 := hj
      rcases (show j = 0 ∨ j = 1 ∨ j = 2 by omega) with rfl | rfl | rfl
      · exact hn _ (nw_i 264 (by decide +kernel))
      · exact hn _ (nw_i 265 (by decide +kernel))
      · exact hn _ (nw_i 266 (by decide +kernel))
  · rcases (show i = 0 ∨ i = 1 ∨ i = 2 ∨ i = 3 ∨ i = 4 ∨ i = 5 ∨ i = 6 by omega) with rfl | rfl | rfl | rfl | rfl | rfl | rfl
    · rcases (show j = 0 ∨ j = 1 ∨ j = 2 ∨ j = 3 ∨ j = 4 ∨ j = 5 ∨ j = 6 by omega) with rfl | rfl | rfl | rfl | rfl | rfl | rfl
      · exact absurd rfl hij
      · exact Or.inl (hn _ (nw_i 212 (by decide +kernel)))
      · exact Or.inl (hn _ (nw_i 223 (by decide +kernel)))
      · exact Or.inr (hn _ (nw_i 202 (by decide +kernel)))
      · exact Or.inl (hn _ (nw_i 241 (by decide +kernel)))
      · exact Or.inl (hn _ (nw_i 256 (by decide +kernel)))
      · exact Or.inl (hn _ (nw_i 269 (by decide +kernel)))
    · rcases (show j = 0 ∨ j = 1 ∨ j = 2 ∨ j = 3 ∨ j = 4 ∨ j = 5 ∨ j = 6 by omega) with rfl | rfl | rfl | rfl | rfl | rfl | rfl
      · exact Or.inr (hn _ (nw_i 212 (by decide +kernel)))
      · exact absurd rfl hij
      · exact Or.inl (hn _ (nw_i 224 (by decide +kernel)))
      · exact Or.inr (hn _ (nw_i 211 (by decide +kernel)))
      · exact Or.inl (hn _ (nw_i 242 (by decide +kernel)))
      · exact Or.inl (hn _ (nw_i 257 (by decide +kernel)))
      · exact Or.inl (hn _ (nw_i 270 (by decide +kernel)))
    · rcases (show j = 0 ∨ j = 1 ∨ j = 2 ∨ j = 3 ∨ j = 4 ∨ j = 5 ∨ j = 6 by omega) with rfl | rfl | rfl | rfl | rfl | rfl | rfl
      · exact Or.inr (hn _ (nw_i 223 (by decide +kernel)))
      · exact Or.inr (hn _ (nw_i 224 (by decide +kernel)))
      · exact absurd rfl hij
      · exact Or.inr (hn _ (nw_i 222 (by decide +kernel)))
      · exact Or.inl (hn _ (nw_i 243 (by decide +kernel)))
      · exact Or.inl (hn _ (nw_i 258 (by decide +kernel)))
      · exact Or.inl (hn _ (nw_i 271 (by decide +kernel)))
    · rcases (show j = 0 ∨ j = 1 ∨ j = 2 ∨ j = 3 ∨ j = 4 ∨ j = 5 ∨ j = 6 by omega) with rfl | rfl | rfl | rfl | rfl | rfl | rfl
      · exact Or.inl (hn _ (nw_i 202 (by decide +kernel)))
      · exact Or.inl (hn _ (nw_i 211 (by decide +kernel)))
      · exact Or.inl (hn _ (nw_i 222 (by decide +kernel)))
      · exact absurd rfl hij
      · exact Or.inl (hn _ (nw_i 240 (by decide +kernel)))
      · exact Or.inl (hn _ (nw_i 255 (by decide +kernel)))
      · exact Or.inl (hn _ (nw_i 268 (by decide +kernel)))
    · rcases (show j = 0 ∨ j = 1 ∨ j = 2 ∨ j = 3 ∨ j = 4 ∨ j = 5 ∨ j = 6 by omega) with rfl | rfl | rfl | rfl | rfl | rfl | rfl
      · exact Or.inr (hn _ (nw_i 241 (by decide +kernel)))
      · exact Or.inr (hn _ (nw_i 242 (by decide +kernel)))
      · exact Or.inr (hn _ (nw_i 243 (by decide +kernel)))
      · exact Or.inr (hn _ (nw_i 240 (by decide +kernel)))
      · exact absurd rfl hij
      · exact Or.inl (hn _ (nw_i 259 (by decide +kernel)))
      · exact Or.inl (hn _ (nw_i 272 (by decide +kernel)))
    · rcases (show j = 0 ∨ j = 1 ∨ j = 2 ∨ j = 3 ∨ j = 4 ∨ j = 5 ∨ j = 6 by omega) with rfl | rfl | rfl | rfl | rfl | rfl | rfl
      · exact Or.inr (hn _ (nw_i 256 (by decide +kernel)))
      · exact Or.inr (hn _ (nw_i 257 (by decide +kernel)))
      · exact Or.inr (hn _ (nw_i 258 (by decide +kernel)))
      · exact Or.inr (hn _ (nw_i 255 (by decide +kernel)))
      · exact Or.inr (hn _ (nw_i 259 (by decide +kernel)))
      · exact absurd rfl hij
      · exact Or.inl (hn _ (nw_i 273 (by decide +kernel)))
    · rcases (show j = 0 ∨ j = 1 ∨ j = 2 ∨ j = 3 ∨ j = 4 ∨ j = 5 ∨ j = 6 by omega) with rfl | rfl | rfl | rfl | rfl | rfl | rfl
      · exact Or.inr (hn _ (nw_i 269 (by decide +kernel)))
      · exact Or.inr (hn _ (nw_i 270 (by decide +kernel)))
      · exact Or.inr (hn _ (nw_i 271 (by decide +kernel)))
      · exact Or.inr (hn _ (nw_i 268 (by decide +kernel)))
      · exact Or.inr (hn _ (nw_i 272 (by decide +kernel)))
      · exact Or.inr (hn _ (nw_i 273 (by decide +kernel)))
      · exact absurd rfl hij
theorem s_nc (hn : ∀ w ∈ nwL, w.before A s = true) : ∀ q ∈ v_nc, va_Nc q.1 q.2 s := by
  unfold v_nc
  refine fmc (va_Nc.of (args := A) (hn _ (nw_i 55 (by decide +kernel)))) ?_
  refine fmc (va_Nc.of (args := A) (hn _ (nw_i 66 (by decide +kernel)))) ?_
  refine fmc (va_Nc.of (args := A) (hn _ (nw_i 77 (by decide +kernel)))) ?_
  refine fmc (va_Nc.of (args := A) (hn _ (nw_i 89 (by decide +kernel)))) ?_
  refine fmc (va_Nc.of (args := A) (hn _ (nw_i 101 (by decide +kernel)))) ?_
  refine fmc (va_Nc.of (args := A) (hn _ (nw_i 113 (by decide +kernel)))) ?_
  refine fmc (va_Nc.of (args := A) (hn _ (nw_i 62 (by decide +kernel)))) ?_
  refine fmc (va_Nc.of (args := A) (hn _ (nw_i 73 (by decide +kernel)))) ?_
  refine fmc (va_Nc.of (args := A) (hn _ (nw_i 84 (by decide +kernel)))) ?_
  refine fmc (va_Nc.of (args := A) (hn _ (nw_i 96 (by decide +kernel)))) ?_
  refine fmc (va_Nc.of (args := A) (hn _ (nw_i 108 (by decide +kernel)))) ?_
  refine fmc (va_Nc.of (args := A) (hn _ (nw_i 51 (by decide +kernel)))) ?_
  refine fmc (va_Nc.of (args := A) (hn _ (nw_i 74 (by decide +kernel)))) ?_
  refine fmc (va_Nc.of (args := A) (hn _ (nw_i 85 (by decide +kernel)))) ?_
  refine fmc (va_Nc.of (args := A) (hn _ (nw_i 97 (by decide +kernel)))) ?_
  refine fmc (va_Nc.of (args := A) (hn _ (nw_i 109 (by decide +kernel)))) ?_
  refine fmc (va_Nc.of (args := A) (hn _ (nw_i 52 (by decide +kernel)))) ?_
  refine fmc (va_Nc.of (args := A) (hn _ (nw_i 63 (by decide +kernel)))) ?_
  refine fmc (va_Nc.of (args := A) (hn _ (nw_i 86 (by decide +kernel)))) ?_
  refine fmc (va_Nc.of (args := A) (hn _ (nw_i 98 (by decide +kernel)))) ?_
  refine fmc (va_Nc.of (args := A) (hn _ (nw_i 110 (by decide +kernel)))) ?_
  refine fmc (va_Nc.of (args := A) (hn _ (nw_i 64 (by decide +kernel)))) ?_
  refine fmc (va_Nc.of (args := A) (hn _ (nw_i 75 (by decide +kernel)))) ?_
  refine fmc (va_Nc.of (args := A) (hn _ (nw_i 99 (by decide +kernel)))) ?_
  refine fmc (va_Nc.of (args := A) (hn _ (nw_i 111 (by decide +kernel)))) ?_
  refine fmc (va_Nc.of (args := A) (hn _ (nw_i 53 (by decide +kernel)))) ?_
  refine fmc (va_Nc.of (args := A) (hn _ (nw_i 76 (by decide +kernel)))) ?_
  refine fmc (va_Nc.of (args := A) (hn _ (nw_i 87 (by decide +kernel)))) ?_
  refine fmc (va_Nc.of (args := A) (hn _ (nw_i 112 (by decide +kernel)))) ?_
  refine fmc (va_Nc.of (args := A) (hn _ (nw_i 54 (by decide +kernel)))) ?_
  refine fmc (va_Nc.of (args := A) (hn _ (nw_i 65 (by decide +kernel)))) ?_
  refine fmc (va_Nc.of (args := A) (hn _ (nw_i 88 (by decide +kernel)))) ?_
  refine fmc (va_Nc.of (args := A) (hn _ (nw_i 100 (by decide +kernel)))) ?_
  exact fmz
theorem s_K (hts : ∀ w ∈ lw_tbl, w.before A s = true) : ∃ (D : va_G) (cA : Nat → ClassId), va_K D vwCl [(cA 13, .byte), (cA 14, .int), (cA 15, .long), (cA 16, .boolean), (cA 17, .object "OneFriend$Person"), (cA 18, .object "OneFriend$Tape")] s := by
  obtain ⟨c0, i0, k0⟩ := u_known (C := RX0) (T := TX0) (N := 3) (n := 3) hts inX0 (hts _ (v_t2 40 (by decide +kernel)))
  obtain ⟨c1, i1, k1⟩ := u_known (C := RX1) (T := TX1) (N := 3) (n := 3) hts inX1 (hts _ (v_t2 30 (by decide +kernel)))
  obtain ⟨c2, i2, k2⟩ := u_known (C := RX2) (T := TX2) (N := 3) (n := 3) hts inX2 (hts _ (v_t2 70 (by decide +kernel)))
  obtain ⟨c3, i3, k3⟩ := u_known (C := RX3) (T := TX3) (N := 3) (n := 3) hts inX3 (hts _ (v_t2 20 (by decide +kernel)))
  obtain ⟨c4, i4, k4⟩ := u_known (C := RX4) (T := TX4) (N := 3) (n := 3) hts inX4 (hts _ (v_t2 50 (by decide +kernel)))
  obtain ⟨c5, i5, k5⟩ := u_known (C := RX5) (T := TX5) (N := 3) (n := 3) hts inX5 (hts _ (v_t1 163 (by decide +kernel)))
  obtain ⟨c6, i6, k6⟩ := u_known (C := RX6) (T := TX6) (N := 3) (n := 3) hts inX6 (hts _ (v_t2 60 (by decide +kernel)))
  obtain ⟨c7, i7, k7⟩ := u_known (C := RX7) (T := TX7) (N := 9) (n := 9) hts inX7 (hts _ (v_t1 112 (by decide +kernel)))
  obtain ⟨c8, i8, k8⟩ := u_known (C := RX8) (T := TX8) (N := 2) (n := 2) hts inX8 (hts _ (v_t1 149 (by decide +kernel)))
  obtain ⟨c9, i9, k9⟩ := u_known (C := RX9) (T := TX9) (N := 15) (n := 15) hts inX9 (hts _ (v_t1 32 (by decide +kernel)))
  obtain ⟨c10, i10, k10⟩ := u_known (C := RX10) (T := TX10) (N := 3) (n := 3) hts inX10 (hts _ (v_t1 227 (by decide +kernel)))
  obtain ⟨c11, i11, k11⟩ := u_known (C := RX11) (T := TX11) (N := 12) (n := 12) hts inX11 (hts _ (v_t1 24 (by decide +kernel)))
  obtain ⟨c12, i12, k12⟩ := u_known (C := RX12) (T := TX12) (N := 61) (n := 61) hts inX12 (hts _ (v_t4 211 (by decide +kernel)))
  obtain ⟨a13, x13⟩ := s_arr (t := .byte) (hts _ (v_t1 110 (by decide +kernel))) (fun C h => (by cases h))
  obtain ⟨a14, x14⟩ := s_arr (t := .int) (hts _ (v_t1 109 (by decide +kernel))) (fun C h => (by cases h))
  obtain ⟨a15, x15⟩ := s_arr (t := .long) (hts _ (v_t1 181 (by decide +kernel))) (fun C h => (by cases h))
  obtain ⟨a16, x16⟩ := s_arr (t := .boolean) (hts _ (v_t5 160 (by decide +kernel))) (fun C h => (by cases h))
  obtain ⟨a17, x17⟩ := s_arrO (C := "OneFriend$Person") (hts _ (v_t1 38 (by decide +kernel)))
  obtain ⟨a18, x18⟩ := s_arrO (C := "OneFriend$Tape") (hts _ (v_t1 147 (by decide +kernel)))
  refine ⟨(fun k => match k with
    | 0 => c0
    | 1 => c1
    | 2 => c2
    | 3 => c3
    | 4 => c4
    | 5 => c5
    | 6 => c6
    | 7 => c7
    | 8 => c8
    | 9 => c9
    | 10 => c10
    | 11 => c11
    | _ => c12, fun k => match k with
    | 0 => i0
    | 1 => i1
    | 2 => i2
    | 3 => i3
    | 4 => i4
    | 5 => i5
    | 6 => i6
    | 7 => i7
    | 8 => i8
    | 9 => i9
    | 10 => i10
    | 11 => i11
    | _ => i12), (fun k => match k with
    | 13 => a13
    | 14 => a14
    | 15 => a15
    | 16 => a16
    | 17 => a17
    | _ => a18), fun c q h => ?_, fun k q h => ?_⟩
  · have hc : c < 13 := (List.getElem?_eq_some_iff.mp h).1
    rcases (show c = 0 ∨ c = 1 ∨ c = 2 ∨ c = 3 ∨ c = 4 ∨ c = 5 ∨ c = 6 ∨ c = 7 ∨ c = 8 ∨ c = 9 ∨ c = 10 ∨ c = 11 ∨ c = 12 by omega) with rfl | rfl | rfl | rfl | rfl | rfl | rfl | rfl | rfl | rfl | rfl | rfl | rfl
    · cases h; exact k0
    · cases h; exact k1
    · cases h; exact k2
    · cases h; exact k3
    · cases h; exact k4
    · cases h; exact k5
    · cases h; exact k6
    · cases h; exact k7
    · cases h; exact k8
    · cases h; exact k9
    · cases h; exact k10
    · cases h; exact k11
    · cases h; exact k12
  · have hc : k < 6 := (List.getElem?_eq_some_iff.mp h).1
    rcases (show k = 0 ∨ k = 1 ∨ k = 2 ∨ k = 3 ∨ k = 4 ∨ k = 5 by omega) with rfl | rfl | rfl | rfl | rfl | rfl
    · cases h; exact x13
    · cases h; exact x14
    · cases h; exact x15
    · cases h; exact x16
    · cases h; exact x17
    · cases h; exact x18
theorem s_G {b : Nat} (hts : ∀ w ∈ lw_tbl, w.before #[Value.ref b] s = true) (hn : ∀ w ∈ nwL, w.before #[Value.ref b] s = true) : ∃ G : v_G, G.2.2.1 = s.heap.size ∧ G.2.2.2 5 = b ∧ va_K G.1 vwCl (v_ty G) s ∧ v_X G s := by
  have hB : ∀ a : Nat, a < s.heap.size → ¬ (fun q : Nat => s.heap.size ≤ q) a := fun a h q => Nat.lt_irrefl _ (Nat.lt_of_lt_of_le h q)
  obtain ⟨D, cA, hK⟩ := s_K hts
  obtain ⟨tl, l1, l2⟩ := s_les hn hB
  obtain ⟨tg, g1, g2⟩ := s_gre hn hB
  obtain ⟨adK, adV, t1, t2⟩ := s_txt hn hB
  have hq : va_Zq "jdk/internal/util/Preconditions" "SIOOBE_FORMATTER" "Ljava/util/function/BiFunction;" (fun q : Nat => s.heap.size ≤ q) s s.heap := va_Zqof (hts _ (v_t3 78 (by decide +kernel))) (hts _ (v_t1 20 (by decide +kernel))) (hn _ (nw_i 41 (by decide +kernel))) hB
  have h1 := va_Zref (hts _ (v_t2 105 (by decide +kernel))) (hts _ (v_t1 1 (by decide +kernel))) l1 hB
  have h2 := va_Zref (hts _ (v_t2 110 (by decide +kernel))) (hts _ (v_t1 1 (by decide +kernel))) g1 hB
  have h3 : va_Z "java/lang/String" "COMPACT_STRINGS" "Z" (.int 1) (fun q : Nat => s.heap.size ≤ q) s s.heap := va_Zof (hts _ (v_t1 49 (by decide +kernel))) (hts _ (v_t1 3 (by decide +kernel))) (va_eqi (C := "java/lang/String") (n := "COMPACT_STRINGS") (d := "Z") (z := 1) (hn _ (nw_i 4 (by decide +kernel)))) hB
  obtain ⟨ts, hts2⟩ : ∃ ts : Nat, va_Z "jdk/internal/util/Preconditions" "SIOOBE_FORMATTER" "Ljava/util/function/BiFunction;" .null (fun q : Nat => s.heap.size ≤ q) s s.heap ∨ va_Z "jdk/internal/util/Preconditions" "SIOOBE_FORMATTER" "Ljava/util/function/BiFunction;" (.ref ts) (fun q : Nat => s.heap.size ≤ q) s s.heap := by
    rcases hq with hq | ⟨t, hq⟩
    · exact ⟨0, Or.inl hq⟩
    · exact ⟨t, Or.inr hq⟩
  have e41 : (Term.string "OneFriend$Village" 41).eval #[Value.ref b] s none [] s = some (.ref (adK 5)) := va_eqv (hn _ (nw_i 254 (by decide +kernel))) (t2 5 (by decide))
  obtain ⟨adr, r0, r1, r2, r5, rK, rV⟩ : ∃ adr : Nat → Nat, adr 0 = tl ∧ adr 1 = tg ∧ adr 2 = ts ∧ adr 5 = b ∧ (∀ i, i < 7 → adr (10 + i) = adK i) ∧ ∀ i, i < 7 → adr (20 + i) = adV i := by
    refine ⟨fun k => if k = 0 then tl else if k = 1 then tg else if k = 2 then ts else if k < 10 then b else if k < 20 then adK (k - 10) else adV (k - 20), rfl, rfl, rfl, rfl, fun i hi => ?_, fun i hi => ?_⟩
    · dsimp only
      rw [if_neg (by omega), if_neg (by omega), if_neg (by omega), if_neg (by omega), if_pos (by omega), show 10 + i - 10 = i by omega]
    · dsimp only
      rw [if_neg (by omega), if_neg (by omega), if_neg (by omega), if_neg (by omega), if_neg (by omega), show 20 + i - 20 = i by omega]
  subst r0 r1 r2
  refine ⟨(D, cA, s.heap.size, adr), rfl, r5, hK, s_nw hts, s_nc hn, ⟨h1, l2⟩, ⟨h2, g2⟩, ⟨h3, hts2⟩, ⟨fun i hi => ?_, fun i j hi hj e => ?_⟩, ?_⟩
  · show va_O _ (adr (10 + i)) _ _ _ ∧ va_OF _ _ _ _ (adr (10 + i)) _ _ _ ∧ va_OF _ _ _ (.ref (adr (20 + i))) (adr (10 + i)) _ _ _ ∧ va_T _ (adr (20 + i)) _ _ _ _ _
    rw [rK i hi, rV i hi]
    exact t1.1 i hi
  · have e : adr (10 + i) = adr (10 + j) := e
    rw [rK i hi, rK j hj] at e
    exact t1.2 i j hi hj e
  · unfold v_trf
    refine fmc (vk_R.of (A := #[Value.ref b]) (hts _ (v_t3 157 (by decide +kernel))) (by rw [show ((D, cA, s.heap.size, adr) : v_G).2.2.2 (10 + 5) = adK 5 from rK 5 (by decide)]; exact t2 5 (by decide))) ?_
    refine fmc (vk_R.of (A := #[Value.ref b]) (hts _ (v_t3 158 (by decide +kernel))) (by rw [show ((D, cA, s.heap.size, adr) : v_G).2.2.2 (10 + 6) = adK 6 from rK 6 (by decide)]; exact t2 6 (by decide))) ?_
    refine fmc (vk_R.of (A := #[Value.ref b]) (hts _ (v_t3 30 (by decide +kernel))) (by rw [show ((D, cA, s.heap.size, adr) : v_G).2.2.2 (10 + 3) = adK 3 from rK 3 (by decide)]; exact t2 3 (by decide))) ?_
    refine fmc (vk_R.of (A := #[Value.ref b]) (hts _ (v_t3 108 (by decide +kernel))) (by rw [show ((D, cA, s.heap.size, adr) : v_G).2.2.2 (10 + 0) = adK 0 from rK 0 (by decide)]; exact t2 0 (by decide))) ?_
    refine fmc (vk_R.of (A := #[Value.ref b]) (hts _ (v_t3 134 (by decide +kernel))) (by rw [show ((D, cA, s.heap.size, adr) : v_G).2.2.2 (10 + 1) = adK 1 from rK 1 (by decide)]; exact t2 1 (by decide))) ?_
    refine fmc (vk_R.of (A := #[Value.ref b]) (hts _ (v_t3 135 (by decide +kernel))) (by rw [show ((D, cA, s.heap.size, adr) : v_G).2.2.2 (10 + 2) = adK 2 from rK 2 (by decide)]; exact t2 2 (by decide))) ?_
    refine fmc (vk_R.of (A := #[Value.ref b]) (hts _ (v_t3 140 (by decide +kernel))) (by rw [show ((D, cA, s.heap.size, adr) : v_G).2.2.2 (10 + 4) = adK 4 from rK 4 (by decide)]; exact t2 4 (by decide))) ?_
    refine fmc (vk_R.of (A := #[Value.ref b]) (hts _ (v_t1 39 (by decide +kernel))) (by rw [show ((D, cA, s.heap.size, adr) : v_G).2.2.2 (10 + 5) = adK 5 from rK 5 (by decide)]; exact e41)) ?_
    exact fmz
end START
