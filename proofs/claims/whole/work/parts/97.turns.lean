/-! THE LAW: a turn of each call -/
theorem ll_bool {G : v_G} {l : Launch} {y : MethodName} {cc : ByteArray} {nL : Nat} {rt : Option FieldType} {Z : Room} {Q : State → Prop} {p : Program} {e : Env} {s : State} {m : MethodId} {args : Array Value} {below : List Frame} {meth : Method} {c : Code} {cells slots pc : Nat} {lv : List (Option Value)} {st : List Value} {M : v_MM} (C : v_C G l y cc nL rt p s m args meth c) {x : Int32} (d0 : decode cc pc = .ok (.ifCond .eq 7, 3)) (d1 : decode cc (pc + 3) = .ok (.iconst 1, 1)) (d2 : decode cc (pc + 3 + 1) = .ok (.goto 4, 3)) (d3 : decode cc (pc + 7) = .ok (.iconst 0, 1)) (kk : v_S G l nL Z Q p e s m args below meth c cells slots (pc + 8) lv (.int (v_p (decide (x ≠ 0) = true)) :: st) M) : v_S G l nL Z Q p e s m args below meth c cells slots pc lv (.int x :: st) M := by
  refine ll_if_eq C (tgt := pc + 7) d0 (by omega) (fun h => ?_) (fun h => ?_)
  · refine ll_iconst C d3 (v := 0) (by decide) ?_
    rw [show v_p (decide (x ≠ 0) = true) = 0 from v_p_f (by simp [h])] at kk
    exact kk
  · refine ll_iconst C d1 (v := 1) (by decide) ?_
    refine ll_goto C (tgt := pc + 8) d2 (by omega) ?_
    rw [show v_p (decide (x ≠ 0) = true) = 1 from v_p_t (by simp [h])] at kk
    exact kk
set_option maxRecDepth 20000 in
theorem L_person {G : v_G} {l : Launch} {nm : String} {rt : Option FieldType} {Q : State → Prop} {p : Program} {e : Env} {s : State} {m : MethodId} {args : Array Value} {below : List Frame} {meth : Method} {c : Code} {L i : Nat} {xs : Nat → Int32} (C : v_C G l ⟨RL, nm, ""⟩ cL_law 4 rt p s m args meth c) (hX : va_X (G.2.2.2 5) L xs s s.heap) (hbl : G.2.2.2 5 < s.heap.size) (hbA : ¬ v_A G (G.2.2.2 5)) (hL : L ≤ 3072) (hi : i + 6 ≤ L) {K : Nat × v_TY} {I : Nat → Nat → Int32} {J : Nat → Nat → Int64} {R : Nat → Nat → Option Nat} {g : ZS} {cells slots : Nat} (h : ZJ K I J R g) (hK : K.1 < 700000) (hc : cells ≤ 600000) (hs : slots ≤ 7000000)
    (kk : ∀ K' I' J' R' g', ZJ K' I' J' R' g' → K'.1 ≤ K.1 + 6 → v_S G l 4 room_1 Q p e s m args below meth c (cells + 6) (slots + 300) 1359 [some (.ref (1000000 + 5)), some (.ref 0), some (.ref 55), some (.int (nI i))] [] (K', I', J', R')) : v_S G l 4 room_1 Q p e s m args below meth c cells slots 200 [some (.ref (1000000 + 5)), some (.ref 0), some (.ref 55), some (.int (nI i))] [] (K, I, J, R) := by
  refine ll_aload_n C (pc := 200) dL_law_200 rfl rfl ?_
  refine ll_arg C (pc := 201) (k := 1) hX hbl hbA hL (by omega) (by decide) rfl rfl dL_law_201 dL_law_202 dL_law_203 dL_law_204 dL_law_205 ?_
  refine ll_arg C (pc := 206) (k := 2) hX hbl hbA hL (by omega) (by decide) rfl rfl dL_law_206 dL_law_207 dL_law_208 dL_law_209 dL_law_210 ?_
  refine ll_ci C (pc := 211) (v_rV (jC_person G l (kk := xs (i + 1)) (vv := xs (i + 2)) h hK) rfl kV_L_13 (v_rcO (li_0 h.1) rfl (by decide)) ⟨Nat.le_of_ble_eq_true rfl, Nat.le_of_ble_eq_true rfl⟩ ⟨Nat.le_trans (Nat.add_le_add_right hc _) (Nat.le_of_ble_eq_true rfl), Nat.le_trans (Nat.add_le_add_right hs _) (Nat.le_of_ble_eq_true rfl)⟩ dL_law_211 (Nat.le_of_ble_eq_true rfl)) (fun x0 M0 h0 => ?_)
  obtain ⟨rfl, K1, I1, J1, R1, rfl, hH, hK1⟩ := h0
  refine ll_aload_n C (pc := 214) dL_law_214 rfl rfl ?_
  refine ll_arg C (pc := 215) (k := 1) hX hbl hbA hL (by omega) (by decide) rfl rfl dL_law_215 dL_law_216 dL_law_217 dL_law_218 dL_law_219 ?_
  refine ll_arg C (pc := 220) (k := 2) hX hbl hbA hL (by omega) (by decide) rfl rfl dL_law_220 dL_law_221 dL_law_222 dL_law_223 dL_law_224 ?_
  refine ll_ci C (pc := 225) (v_rV (jM_person G l (kk := xs (i + 1)) (vv := xs (i + 2)) hH) rfl kV_L_17 (v_rcO (li_55 hH.1) rfl (by decide)) ⟨Nat.le_of_ble_eq_true rfl, Nat.le_of_ble_eq_true rfl⟩ ⟨Nat.le_trans (Nat.add_le_add_right (Nat.add_le_add_right hc _) _) (Nat.le_of_ble_eq_true rfl), Nat.le_trans (Nat.add_le_add_right (Nat.add_le_add_right hs _) _) (Nat.le_of_ble_eq_true rfl)⟩ dL_law_225 (Nat.le_of_ble_eq_true rfl)) (fun x1 M1 h1 => ?_)
  obtain ⟨rfl, I2, J2, rfl, hJ⟩ := h1
  refine ll_icmp_eq C (pc := 228) (tgt := 1359) dL_law_228 (by decide) (fun _ => ?_) (fun q => absurd rfl q)
  exact ll_wide (by rw [Nat.add_assoc]; exact Nat.add_le_add_left (Nat.le_of_ble_eq_true rfl) _) (by rw [Nat.add_assoc]; exact Nat.add_le_add_left (Nat.le_of_ble_eq_true rfl) _) (kk _ _ _ _ _ hJ hK1)
set_option maxRecDepth 20000 in
theorem L_of {G : v_G} {l : Launch} {nm : String} {rt : Option FieldType} {Q : State → Prop} {p : Program} {e : Env} {s : State} {m : MethodId} {args : Array Value} {below : List Frame} {meth : Method} {c : Code} {L i : Nat} {xs : Nat → Int32} (C : v_C G l ⟨RL, nm, ""⟩ cL_law 4 rt p s m args meth c) (hX : va_X (G.2.2.2 5) L xs s s.heap) (hbl : G.2.2.2 5 < s.heap.size) (hbA : ¬ v_A G (G.2.2.2 5)) (hL : L ≤ 3072) (hi : i + 6 ≤ L) {K : Nat × v_TY} {I : Nat → Nat → Int32} {J : Nat → Nat → Int64} {R : Nat → Nat → Option Nat} {g : ZS} {cells slots : Nat} (h : ZJ K I J R g) (hK : K.1 < 700000) (hc : cells ≤ 600000) (hs : slots ≤ 7000000)
    (kk : ∀ K' I' J' R' g', ZJ K' I' J' R' g' → K'.1 ≤ K.1 + 6 → v_S G l 4 room_1 Q p e s m args below meth c (cells + 6) (slots + 300) 1359 [some (.ref (1000000 + 5)), some (.ref 0), some (.ref 55), some (.int (nI i))] [] (K', I', J', R')) : v_S G l 4 room_1 Q p e s m args below meth c cells slots 233 [some (.ref (1000000 + 5)), some (.ref 0), some (.ref 55), some (.int (nI i))] [] (K, I, J, R) := by
  refine ll_aload_n C (pc := 233) dL_law_233 rfl rfl ?_
  refine ll_arg C (pc := 234) (k := 1) hX hbl hbA hL (by omega) (by decide) rfl rfl dL_law_234 dL_law_235 dL_law_236 dL_law_237 dL_law_238 ?_
  refine ll_arg C (pc := 239) (k := 2) hX hbl hbA hL (by omega) (by decide) rfl rfl dL_law_239 dL_law_240 dL_law_241 dL_law_242 dL_law_243 ?_
  refine ll_ci C (pc := 244) (v_rV (jC_of G l (pp := xs (i + 1)) (ww := xs (i + 2)) h hK) rfl kV_L_18 (v_rcO (li_0 h.1) rfl (by decide)) ⟨Nat.le_of_ble_eq_true rfl, Nat.le_of_ble_eq_true rfl⟩ ⟨Nat.le_trans (Nat.add_le_add_right hc _) (Nat.le_of_ble_eq_true rfl), Nat.le_trans (Nat.add_le_add_right hs _) (Nat.le_of_ble_eq_true rfl)⟩ dL_law_244 (Nat.le_of_ble_eq_true rfl)) (fun x0 M0 h0 => ?_)
  obtain ⟨rfl, K1, I1, J1, R1, rfl, hH, hK1⟩ := h0
  refine ll_aload_n C (pc := 247) dL_law_247 rfl rfl ?_
  refine ll_arg C (pc := 248) (k := 1) hX hbl hbA hL (by omega) (by decide) rfl rfl dL_law_248 dL_law_249 dL_law_250 dL_law_251 dL_law_252 ?_
  refine ll_arg C (pc := 253) (k := 2) hX hbl hbA hL (by omega) (by decide) rfl rfl dL_law_253 dL_law_254 dL_law_255 dL_law_256 dL_law_257 ?_
  refine ll_ci C (pc := 258) (v_rV (jM_of G l (pp := xs (i + 1)) (ww := xs (i + 2)) hH) rfl kV_L_21 (v_rcO (li_55 hH.1) rfl (by decide)) ⟨Nat.le_of_ble_eq_true rfl, Nat.le_of_ble_eq_true rfl⟩ ⟨Nat.le_trans (Nat.add_le_add_right (Nat.add_le_add_right hc _) _) (Nat.le_of_ble_eq_true rfl), Nat.le_trans (Nat.add_le_add_right (Nat.add_le_add_right hs _) _) (Nat.le_of_ble_eq_true rfl)⟩ dL_law_258 (Nat.le_of_ble_eq_true rfl)) (fun x1 M1 h1 => ?_)
  obtain ⟨rfl, I2, J2, rfl, hJ⟩ := h1
  refine ll_icmp_eq C (pc := 261) (tgt := 1359) dL_law_261 (by decide) (fun _ => ?_) (fun q => absurd rfl q)
  exact ll_wide (by rw [Nat.add_assoc]; exact Nat.add_le_add_left (Nat.le_of_ble_eq_true rfl) _) (by rw [Nat.add_assoc]; exact Nat.add_le_add_left (Nat.le_of_ble_eq_true rfl) _) (kk _ _ _ _ _ hJ hK1)
set_option maxRecDepth 20000 in
theorem L_friends {G : v_G} {l : Launch} {nm : String} {rt : Option FieldType} {Q : State → Prop} {p : Program} {e : Env} {s : State} {m : MethodId} {args : Array Value} {below : List Frame} {meth : Method} {c : Code} {L i : Nat} {xs : Nat → Int32} (C : v_C G l ⟨RL, nm, ""⟩ cL_law 4 rt p s m args meth c) (hX : va_X (G.2.2.2 5) L xs s s.heap) (hbl : G.2.2.2 5 < s.heap.size) (hbA : ¬ v_A G (G.2.2.2 5)) (hL : L ≤ 3072) (hi : i + 6 ≤ L) {K : Nat × v_TY} {I : Nat → Nat → Int32} {J : Nat → Nat → Int64} {R : Nat → Nat → Option Nat} {g : ZS} {cells slots : Nat} (h : ZJ K I J R g) (hK : K.1 < 700000) (hc : cells ≤ 600000) (hs : slots ≤ 7000000)
    (kk : ∀ K' I' J' R' g', ZJ K' I' J' R' g' → K'.1 ≤ K.1 + 6 → v_S G l 4 room_1 Q p e s m args below meth c (cells + 6) (slots + 300) 1359 [some (.ref (1000000 + 5)), some (.ref 0), some (.ref 55), some (.int (nI i))] [] (K', I', J', R')) : v_S G l 4 room_1 Q p e s m args below meth c cells slots 266 [some (.ref (1000000 + 5)), some (.ref 0), some (.ref 55), some (.int (nI i))] [] (K, I, J, R) := by
  refine ll_aload_n C (pc := 266) dL_law_266 rfl rfl ?_
  refine ll_arg C (pc := 267) (k := 1) hX hbl hbA hL (by omega) (by decide) rfl rfl dL_law_267 dL_law_268 dL_law_269 dL_law_270 dL_law_271 ?_
  refine ll_arg C (pc := 272) (k := 2) hX hbl hbA hL (by omega) (by decide) rfl rfl dL_law_272 dL_law_273 dL_law_274 dL_law_275 dL_law_276 ?_
  refine ll_arg C (pc := 277) (k := 3) hX hbl hbA hL (by omega) (by decide) rfl rfl dL_law_277 dL_law_278 dL_law_279 dL_law_280 dL_law_281 ?_
  refine ll_bool C (pc := 282) dL_law_282 dL_law_285 dL_law_286 dL_law_289 ?_
  refine ll_ci C (pc := 290) (v_rV (jC_friends G l (pp := xs (i + 1)) (qq := xs (i + 2)) (ar := decide (xs (i + 3) ≠ 0)) h hK) rfl kV_L_22 (v_rcO (li_0 h.1) rfl (by decide)) ⟨Nat.le_of_ble_eq_true rfl, Nat.le_of_ble_eq_true rfl⟩ ⟨Nat.le_trans (Nat.add_le_add_right hc _) (Nat.le_of_ble_eq_true rfl), Nat.le_trans (Nat.add_le_add_right hs _) (Nat.le_of_ble_eq_true rfl)⟩ dL_law_290 (Nat.le_of_ble_eq_true rfl)) (fun x0 M0 h0 => ?_)
  obtain ⟨rfl, K1, I1, J1, R1, rfl, hH, hK1⟩ := h0
  refine ll_aload_n C (pc := 293) dL_law_293 rfl rfl ?_
  refine ll_arg C (pc := 294) (k := 1) hX hbl hbA hL (by omega) (by decide) rfl rfl dL_law_294 dL_law_295 dL_law_296 dL_law_297 dL_law_298 ?_
  refine ll_arg C (pc := 299) (k := 2) hX hbl hbA hL (by omega) (by decide) rfl rfl dL_law_299 dL_law_300 dL_law_301 dL_law_302 dL_law_303 ?_
  refine ll_arg C (pc := 304) (k := 3) hX hbl hbA hL (by omega) (by decide) rfl rfl dL_law_304 dL_law_305 dL_law_306 dL_law_307 dL_law_308 ?_
  refine ll_bool C (pc := 309) dL_law_309 dL_law_312 dL_law_313 dL_law_316 ?_
  refine ll_ci C (pc := 317) (v_rV (jM_friends G l (pp := xs (i + 1)) (qq := xs (i + 2)) (ar := decide (xs (i + 3) ≠ 0)) hH) rfl kV_L_26 (v_rcO (li_55 hH.1) rfl (by decide)) ⟨Nat.le_of_ble_eq_true rfl, Nat.le_of_ble_eq_true rfl⟩ ⟨Nat.le_trans (Nat.add_le_add_right (Nat.add_le_add_right hc _) _) (Nat.le_of_ble_eq_true rfl), Nat.le_trans (Nat.add_le_add_right (Nat.add_le_add_right hs _) _) (Nat.le_of_ble_eq_true rfl)⟩ dL_law_317 (Nat.le_of_ble_eq_true rfl)) (fun x1 M1 h1 => ?_)
  obtain ⟨rfl, I2, J2, rfl, hJ⟩ := h1
  refine ll_icmp_eq C (pc := 320) (tgt := 1359) dL_law_320 (by decide) (fun _ => ?_) (fun q => absurd rfl q)
  exact ll_wide (by rw [Nat.add_assoc]; exact Nat.add_le_add_left (Nat.le_of_ble_eq_true rfl) _) (by rw [Nat.add_assoc]; exact Nat.add_le_add_left (Nat.le_of_ble_eq_true rfl) _) (kk _ _ _ _ _ hJ hK1)
set_option maxRecDepth 20000 in
theorem L_pair {G : v_G} {l : Launch} {nm : String} {rt : Option FieldType} {Q : State → Prop} {p : Program} {e : Env} {s : State} {m : MethodId} {args : Array Value} {below : List Frame} {meth : Method} {c : Code} {L i : Nat} {xs : Nat → Int32} (C : v_C G l ⟨RL, nm, ""⟩ cL_law 4 rt p s m args meth c) (hX : va_X (G.2.2.2 5) L xs s s.heap) (hbl : G.2.2.2 5 < s.heap.size) (hbA : ¬ v_A G (G.2.2.2 5)) (hL : L ≤ 3072) (hi : i + 6 ≤ L) {K : Nat × v_TY} {I : Nat → Nat → Int32} {J : Nat → Nat → Int64} {R : Nat → Nat → Option Nat} {g : ZS} {cells slots : Nat} (h : ZJ K I J R g) (hK : K.1 < 700000) (hc : cells ≤ 600000) (hs : slots ≤ 7000000)
    (kk : ∀ K' I' J' R' g', ZJ K' I' J' R' g' → K'.1 ≤ K.1 + 6 → v_S G l 4 room_1 Q p e s m args below meth c (cells + 6) (slots + 300) 1359 [some (.ref (1000000 + 5)), some (.ref 0), some (.ref 55), some (.int (nI i))] [] (K', I', J', R')) : v_S G l 4 room_1 Q p e s m args below meth c cells slots 325 [some (.ref (1000000 + 5)), some (.ref 0), some (.ref 55), some (.int (nI i))] [] (K, I, J, R) := by
  refine ll_aload_n C (pc := 325) dL_law_325 rfl rfl ?_
  refine ll_arg C (pc := 326) (k := 1) hX hbl hbA hL (by omega) (by decide) rfl rfl dL_law_326 dL_law_327 dL_law_328 dL_law_329 dL_law_330 ?_
  refine ll_arg C (pc := 331) (k := 2) hX hbl hbA hL (by omega) (by decide) rfl rfl dL_law_331 dL_law_332 dL_law_333 dL_law_334 dL_law_335 ?_
  refine ll_ci C (pc := 336) (v_rV (jC_pair G l (pp := xs (i + 1)) (qq := xs (i + 2)) h hK) rfl kV_L_27 (v_rcO (li_0 h.1) rfl (by decide)) ⟨Nat.le_of_ble_eq_true rfl, Nat.le_of_ble_eq_true rfl⟩ ⟨Nat.le_trans (Nat.add_le_add_right hc _) (Nat.le_of_ble_eq_true rfl), Nat.le_trans (Nat.add_le_add_right hs _) (Nat.le_of_ble_eq_true rfl)⟩ dL_law_336 (Nat.le_of_ble_eq_true rfl)) (fun x0 M0 h0 => ?_)
  obtain ⟨rfl, K1, I1, J1, R1, rfl, hH, hK1⟩ := h0
  refine ll_aload_n C (pc := 339) dL_law_339 rfl rfl ?_
  refine ll_arg C (pc := 340) (k := 1) hX hbl hbA hL (by omega) (by decide) rfl rfl dL_law_340 dL_law_341 dL_law_342 dL_law_343 dL_law_344 ?_
  refine ll_arg C (pc := 345) (k := 2) hX hbl hbA hL (by omega) (by decide) rfl rfl dL_law_345 dL_law_346 dL_law_347 dL_law_348 dL_law_349 ?_
  refine ll_ci C (pc := 350) (v_rV (jM_pair G l (pp := xs (i + 1)) (qq := xs (i + 2)) hH) rfl kV_L_30 (v_rcO (li_55 hH.1) rfl (by decide)) ⟨Nat.le_of_ble_eq_true rfl, Nat.le_of_ble_eq_true rfl⟩ ⟨Nat.le_trans (Nat.add_le_add_right (Nat.add_le_add_right hc _) _) (Nat.le_of_ble_eq_true rfl), Nat.le_trans (Nat.add_le_add_right (Nat.add_le_add_right hs _) _) (Nat.le_of_ble_eq_true rfl)⟩ dL_law_350 (Nat.le_of_ble_eq_true rfl)) (fun x1 M1 h1 => ?_)
  obtain ⟨rfl, I2, J2, rfl, hJ⟩ := h1
  refine ll_icmp_eq C (pc := 353) (tgt := 1359) dL_law_353 (by decide) (fun _ => ?_) (fun q => absurd rfl q)
  exact ll_wide (by rw [Nat.add_assoc]; exact Nat.add_le_add_left (Nat.le_of_ble_eq_true rfl) _) (by rw [Nat.add_assoc]; exact Nat.add_le_add_left (Nat.le_of_ble_eq_true rfl) _) (kk _ _ _ _ _ hJ hK1)
set_option maxRecDepth 20000 in
theorem L_at {G : v_G} {l : Launch} {nm : String} {rt : Option FieldType} {Q : State → Prop} {p : Program} {e : Env} {s : State} {m : MethodId} {args : Array Value} {below : List Frame} {meth : Method} {c : Code} {L i : Nat} {xs : Nat → Int32} (C : v_C G l ⟨RL, nm, ""⟩ cL_law 4 rt p s m args meth c) (hX : va_X (G.2.2.2 5) L xs s s.heap) (hbl : G.2.2.2 5 < s.heap.size) (hbA : ¬ v_A G (G.2.2.2 5)) (hL : L ≤ 3072) (hi : i + 6 ≤ L) {K : Nat × v_TY} {I : Nat → Nat → Int32} {J : Nat → Nat → Int64} {R : Nat → Nat → Option Nat} {g : ZS} {cells slots : Nat} (h : ZJ K I J R g) (hK : K.1 < 700000) (hc : cells ≤ 600000) (hs : slots ≤ 7000000)
    (kk : ∀ K' I' J' R' g', ZJ K' I' J' R' g' → K'.1 ≤ K.1 + 6 → v_S G l 4 room_1 Q p e s m args below meth c (cells + 6) (slots + 300) 1359 [some (.ref (1000000 + 5)), some (.ref 0), some (.ref 55), some (.int (nI i))] [] (K', I', J', R')) : v_S G l 4 room_1 Q p e s m args below meth c cells slots 358 [some (.ref (1000000 + 5)), some (.ref 0), some (.ref 55), some (.int (nI i))] [] (K, I, J, R) := by
  refine ll_aload_n C (pc := 358) dL_law_358 rfl rfl ?_
  refine ll_arg C (pc := 359) (k := 1) hX hbl hbA hL (by omega) (by decide) rfl rfl dL_law_359 dL_law_360 dL_law_361 dL_law_362 dL_law_363 ?_
  refine ll_arg C (pc := 364) (k := 2) hX hbl hbA hL (by omega) (by decide) rfl rfl dL_law_364 dL_law_365 dL_law_366 dL_law_367 dL_law_368 ?_
  refine ll_ci C (pc := 369) (v_rV (jC_at G l (pp := xs (i + 1)) (ww := xs (i + 2)) h hK) rfl kV_L_31 (v_rcO (li_0 h.1) rfl (by decide)) ⟨Nat.le_of_ble_eq_true rfl, Nat.le_of_ble_eq_true rfl⟩ ⟨Nat.le_trans (Nat.add_le_add_right hc _) (Nat.le_of_ble_eq_true rfl), Nat.le_trans (Nat.add_le_add_right hs _) (Nat.le_of_ble_eq_true rfl)⟩ dL_law_369 (Nat.le_of_ble_eq_true rfl)) (fun x0 M0 h0 => ?_)
  obtain ⟨rfl, K1, I1, J1, R1, rfl, hH, hK1⟩ := h0
  refine ll_aload_n C (pc := 372) dL_law_372 rfl rfl ?_
  refine ll_arg C (pc := 373) (k := 1) hX hbl hbA hL (by omega) (by decide) rfl rfl dL_law_373 dL_law_374 dL_law_375 dL_law_376 dL_law_377 ?_
  refine ll_arg C (pc := 378) (k := 2) hX hbl hbA hL (by omega) (by decide) rfl rfl dL_law_378 dL_law_379 dL_law_380 dL_law_381 dL_law_382 ?_
  refine ll_ci C (pc := 383) (v_rV (jM_at G l (pp := xs (i + 1)) (ww := xs (i + 2)) hH) rfl kV_L_34 (v_rcO (li_55 hH.1) rfl (by decide)) ⟨Nat.le_of_ble_eq_true rfl, Nat.le_of_ble_eq_true rfl⟩ ⟨Nat.le_trans (Nat.add_le_add_right (Nat.add_le_add_right hc _) _) (Nat.le_of_ble_eq_true rfl), Nat.le_trans (Nat.add_le_add_right (Nat.add_le_add_right hs _) _) (Nat.le_of_ble_eq_true rfl)⟩ dL_law_383 (Nat.le_of_ble_eq_true rfl)) (fun x1 M1 h1 => ?_)
  obtain ⟨rfl, I2, J2, rfl, hJ⟩ := h1
  refine ll_icmp_eq C (pc := 386) (tgt := 1359) dL_law_386 (by decide) (fun _ => ?_) (fun q => absurd rfl q)
  exact ll_wide (by rw [Nat.add_assoc]; exact Nat.add_le_add_left (Nat.le_of_ble_eq_true rfl) _) (by rw [Nat.add_assoc]; exact Nat.add_le_add_left (Nat.le_of_ble_eq_true rfl) _) (kk _ _ _ _ _ hJ hK1)
set_option maxRecDepth 20000 in
theorem L_row {G : v_G} {l : Launch} {nm : String} {rt : Option FieldType} {Q : State → Prop} {p : Program} {e : Env} {s : State} {m : MethodId} {args : Array Value} {below : List Frame} {meth : Method} {c : Code} {L i : Nat} {xs : Nat → Int32} (C : v_C G l ⟨RL, nm, ""⟩ cL_law 4 rt p s m args meth c) (hX : va_X (G.2.2.2 5) L xs s s.heap) (hbl : G.2.2.2 5 < s.heap.size) (hbA : ¬ v_A G (G.2.2.2 5)) (hL : L ≤ 3072) (hi : i + 6 ≤ L) {K : Nat × v_TY} {I : Nat → Nat → Int32} {J : Nat → Nat → Int64} {R : Nat → Nat → Option Nat} {g : ZS} {cells slots : Nat} (h : ZJ K I J R g) (hK : K.1 < 700000) (hc : cells ≤ 600000) (hs : slots ≤ 7000000)
    (kk : ∀ K' I' J' R' g', ZJ K' I' J' R' g' → K'.1 ≤ K.1 + 6 → v_S G l 4 room_1 Q p e s m args below meth c (cells + 6) (slots + 300) 1359 [some (.ref (1000000 + 5)), some (.ref 0), some (.ref 55), some (.int (nI i))] [] (K', I', J', R')) : v_S G l 4 room_1 Q p e s m args below meth c cells slots 391 [some (.ref (1000000 + 5)), some (.ref 0), some (.ref 55), some (.int (nI i))] [] (K, I, J, R) := by
  refine ll_aload_n C (pc := 391) dL_law_391 rfl rfl ?_
  refine ll_arg C (pc := 392) (k := 1) hX hbl hbA hL (by omega) (by decide) rfl rfl dL_law_392 dL_law_393 dL_law_394 dL_law_395 dL_law_396 ?_
  refine ll_arg C (pc := 397) (k := 2) hX hbl hbA hL (by omega) (by decide) rfl rfl dL_law_397 dL_law_398 dL_law_399 dL_law_400 dL_law_401 ?_
  refine ll_arg C (pc := 402) (k := 3) hX hbl hbA hL (by omega) (by decide) rfl rfl dL_law_402 dL_law_403 dL_law_404 dL_law_405 dL_law_406 ?_
  refine ll_ci C (pc := 407) (v_rV (jC_row G l (pp := xs (i + 1)) (jj := xs (i + 2)) (dd := xs (i + 3)) h hK) rfl kV_L_35 (v_rcO (li_0 h.1) rfl (by decide)) ⟨Nat.le_of_ble_eq_true rfl, Nat.le_of_ble_eq_true rfl⟩ ⟨Nat.le_trans (Nat.add_le_add_right hc _) (Nat.le_of_ble_eq_true rfl), Nat.le_trans (Nat.add_le_add_right hs _) (Nat.le_of_ble_eq_true rfl)⟩ dL_law_407 (Nat.le_of_ble_eq_true rfl)) (fun x0 M0 h0 => ?_)
  obtain ⟨rfl, K1, I1, J1, R1, rfl, hH, hK1⟩ := h0
  refine ll_aload_n C (pc := 410) dL_law_410 rfl rfl ?_
  refine ll_arg C (pc := 411) (k := 1) hX hbl hbA hL (by omega) (by decide) rfl rfl dL_law_411 dL_law_412 dL_law_413 dL_law_414 dL_law_415 ?_
  refine ll_arg C (pc := 416) (k := 2) hX hbl hbA hL (by omega) (by decide) rfl rfl dL_law_416 dL_law_417 dL_law_418 dL_law_419 dL_law_420 ?_
  refine ll_arg C (pc := 421) (k := 3) hX hbl hbA hL (by omega) (by decide) rfl rfl dL_law_421 dL_law_422 dL_law_423 dL_law_424 dL_law_425 ?_
  refine ll_ci C (pc := 426) (v_rV (jM_row G l (pp := xs (i + 1)) (jj := xs (i + 2)) (dd := xs (i + 3)) hH) rfl kV_L_39 (v_rcO (li_55 hH.1) rfl (by decide)) ⟨Nat.le_of_ble_eq_true rfl, Nat.le_of_ble_eq_true rfl⟩ ⟨Nat.le_trans (Nat.add_le_add_right (Nat.add_le_add_right hc _) _) (Nat.le_of_ble_eq_true rfl), Nat.le_trans (Nat.add_le_add_right (Nat.add_le_add_right hs _) _) (Nat.le_of_ble_eq_true rfl)⟩ dL_law_426 (Nat.le_of_ble_eq_true rfl)) (fun x1 M1 h1 => ?_)
  obtain ⟨rfl, I2, J2, rfl, hJ⟩ := h1
  refine ll_icmp_eq C (pc := 429) (tgt := 1359) dL_law_429 (by decide) (fun _ => ?_) (fun q => absurd rfl q)
  exact ll_wide (by rw [Nat.add_assoc]; exact Nat.add_le_add_left (Nat.le_of_ble_eq_true rfl) _) (by rw [Nat.add_assoc]; exact Nat.add_le_add_left (Nat.le_of_ble_eq_true rfl) _) (kk _ _ _ _ _ hJ hK1)
set_option maxRecDepth 20000 in
theorem L_feed {G : v_G} {l : Launch} {nm : String} {rt : Option FieldType} {Q : State → Prop} {p : Program} {e : Env} {s : State} {m : MethodId} {args : Array Value} {below : List Frame} {meth : Method} {c : Code} {L i : Nat} {xs : Nat → Int32} (C : v_C G l ⟨RL, nm, ""⟩ cL_law 4 rt p s m args meth c) (hX : va_X (G.2.2.2 5) L xs s s.heap) (hbl : G.2.2.2 5 < s.heap.size) (hbA : ¬ v_A G (G.2.2.2 5)) (hL : L ≤ 3072) (hi : i + 6 ≤ L) {K : Nat × v_TY} {I : Nat → Nat → Int32} {J : Nat → Nat → Int64} {R : Nat → Nat → Option Nat} {g : ZS} {cells slots : Nat} (h : ZJ K I J R g) (hK : K.1 < 700000) (hc : cells ≤ 600000) (hs : slots ≤ 7000000)
    (kk : ∀ K' I' J' R' g', ZJ K' I' J' R' g' → K'.1 ≤ K.1 + 6 → v_S G l 4 room_1 Q p e s m args below meth c (cells + 6) (slots + 300) 1359 [some (.ref (1000000 + 5)), some (.ref 0), some (.ref 55), some (.int (nI i))] [] (K', I', J', R')) : v_S G l 4 room_1 Q p e s m args below meth c cells slots 434 [some (.ref (1000000 + 5)), some (.ref 0), some (.ref 55), some (.int (nI i))] [] (K, I, J, R) := by
  refine ll_aload_n C (pc := 434) dL_law_434 rfl rfl ?_
  refine ll_arg C (pc := 435) (k := 1) hX hbl hbA hL (by omega) (by decide) rfl rfl dL_law_435 dL_law_436 dL_law_437 dL_law_438 dL_law_439 ?_
  refine ll_ci C (pc := 440) (v_rV (jC_feed G l (ss := xs (i + 1)) h hK) rfl kV_L_40 (v_rcO (li_0 h.1) rfl (by decide)) ⟨Nat.le_of_ble_eq_true rfl, Nat.le_of_ble_eq_true rfl⟩ ⟨Nat.le_trans (Nat.add_le_add_right hc _) (Nat.le_of_ble_eq_true rfl), Nat.le_trans (Nat.add_le_add_right hs _) (Nat.le_of_ble_eq_true rfl)⟩ dL_law_440 (Nat.le_of_ble_eq_true rfl)) (fun x0 M0 h0 => ?_)
  obtain ⟨rfl, K1, I1, J1, R1, rfl, hH, hK1⟩ := h0
  refine ll_aload_n C (pc := 443) dL_law_443 rfl rfl ?_
  refine ll_arg C (pc := 444) (k := 1) hX hbl hbA hL (by omega) (by decide) rfl rfl dL_law_444 dL_law_445 dL_law_446 dL_law_447 dL_law_448 ?_
  refine ll_ci C (pc := 449) (v_rV (jM_feed G l (ss := xs (i + 1)) hH) rfl kV_L_44 (v_rcO (li_55 hH.1) rfl (by decide)) ⟨Nat.le_of_ble_eq_true rfl, Nat.le_of_ble_eq_true rfl⟩ ⟨Nat.le_trans (Nat.add_le_add_right (Nat.add_le_add_right hc _) _) (Nat.le_of_ble_eq_true rfl), Nat.le_trans (Nat.add_le_add_right (Nat.add_le_add_right hs _) _) (Nat.le_of_ble_eq_true rfl)⟩ dL_law_449 (Nat.le_of_ble_eq_true rfl)) (fun x1 M1 h1 => ?_)
  obtain ⟨rfl, I2, J2, rfl, hJ⟩ := h1
  refine ll_icmp_eq C (pc := 452) (tgt := 1359) dL_law_452 (by decide) (fun _ => ?_) (fun q => absurd rfl q)
  exact ll_wide (by rw [Nat.add_assoc]; exact Nat.add_le_add_left (Nat.le_of_ble_eq_true rfl) _) (by rw [Nat.add_assoc]; exact Nat.add_le_add_left (Nat.le_of_ble_eq_true rfl) _) (kk _ _ _ _ _ hJ hK1)
set_option maxRecDepth 20000 in
theorem L_town {G : v_G} {l : Launch} {nm : String} {rt : Option FieldType} {Q : State → Prop} {p : Program} {e : Env} {s : State} {m : MethodId} {args : Array Value} {below : List Frame} {meth : Method} {c : Code} {L i : Nat} {xs : Nat → Int32} (C : v_C G l ⟨RL, nm, ""⟩ cL_law 4 rt p s m args meth c) (hX : va_X (G.2.2.2 5) L xs s s.heap) (hbl : G.2.2.2 5 < s.heap.size) (hbA : ¬ v_A G (G.2.2.2 5)) (hL : L ≤ 3072) (hi : i + 6 ≤ L) {K : Nat × v_TY} {I : Nat → Nat → Int32} {J : Nat → Nat → Int64} {R : Nat → Nat → Option Nat} {g : ZS} {cells slots : Nat} (h : ZJ K I J R g) (hK : K.1 < 700000) (hc : cells ≤ 600000) (hs : slots ≤ 7000000)
    (kk : ∀ K' I' J' R' g', ZJ K' I' J' R' g' → K'.1 ≤ K.1 + 6 → v_S G l 4 room_1 Q p e s m args below meth c (cells + 6) (slots + 300) 1359 [some (.ref (1000000 + 5)), some (.ref 0), some (.ref 55), some (.int (nI i))] [] (K', I', J', R')) : v_S G l 4 room_1 Q p e s m args below meth c cells slots 457 [some (.ref (1000000 + 5)), some (.ref 0), some (.ref 55), some (.int (nI i))] [] (K, I, J, R) := by
  refine ll_aload_n C (pc := 457) dL_law_457 rfl rfl ?_
  refine ll_ci C (pc := 458) (v_rV (jC_town G l h hK) rfl kV_L_45 (v_rcO (li_0 h.1) rfl (by decide)) ⟨Nat.le_of_ble_eq_true rfl, Nat.le_of_ble_eq_true rfl⟩ ⟨Nat.le_trans (Nat.add_le_add_right hc _) (Nat.le_of_ble_eq_true rfl), Nat.le_trans (Nat.add_le_add_right hs _) (Nat.le_of_ble_eq_true rfl)⟩ dL_law_458 (Nat.le_of_ble_eq_true rfl)) (fun x0 M0 h0 => ?_)
  obtain ⟨rfl, K1, I1, J1, R1, rfl, hH, hK1⟩ := h0
  refine ll_aload_n C (pc := 461) dL_law_461 rfl rfl ?_
  refine ll_ci C (pc := 462) (v_rV (jM_town G l hH) rfl kV_L_49 (v_rcO (li_55 hH.1) rfl (by decide)) ⟨Nat.le_of_ble_eq_true rfl, Nat.le_of_ble_eq_true rfl⟩ ⟨Nat.le_trans (Nat.add_le_add_right (Nat.add_le_add_right hc _) _) (Nat.le_of_ble_eq_true rfl), Nat.le_trans (Nat.add_le_add_right (Nat.add_le_add_right hs _) _) (Nat.le_of_ble_eq_true rfl)⟩ dL_law_462 (Nat.le_of_ble_eq_true rfl)) (fun x1 M1 h1 => ?_)
  obtain ⟨rfl, I2, J2, rfl, hJ⟩ := h1
  refine ll_icmp_eq C (pc := 465) (tgt := 1359) dL_law_465 (by decide) (fun _ => ?_) (fun q => absurd rfl q)
  exact ll_wide (by rw [Nat.add_assoc]; exact Nat.add_le_add_left (Nat.le_of_ble_eq_true rfl) _) (by rw [Nat.add_assoc]; exact Nat.add_le_add_left (Nat.le_of_ble_eq_true rfl) _) (kk _ _ _ _ _ hJ hK1)
set_option maxRecDepth 20000 in
theorem L_year {G : v_G} {l : Launch} {nm : String} {rt : Option FieldType} {Q : State → Prop} {p : Program} {e : Env} {s : State} {m : MethodId} {args : Array Value} {below : List Frame} {meth : Method} {c : Code} {L i : Nat} {xs : Nat → Int32} (C : v_C G l ⟨RL, nm, ""⟩ cL_law 4 rt p s m args meth c) (hX : va_X (G.2.2.2 5) L xs s s.heap) (hbl : G.2.2.2 5 < s.heap.size) (hbA : ¬ v_A G (G.2.2.2 5)) (hL : L ≤ 3072) (hi : i + 6 ≤ L) {K : Nat × v_TY} {I : Nat → Nat → Int32} {J : Nat → Nat → Int64} {R : Nat → Nat → Option Nat} {g : ZS} {cells slots : Nat} (h : ZJ K I J R g) (hK : K.1 < 700000) (hc : cells ≤ 600000) (hs : slots ≤ 7000000)
    (kk : ∀ K' I' J' R' g', ZJ K' I' J' R' g' → K'.1 ≤ K.1 + 6 → v_S G l 4 room_1 Q p e s m args below meth c (cells + 6) (slots + 300) 1359 [some (.ref (1000000 + 5)), some (.ref 0), some (.ref 55), some (.int (nI i))] [] (K', I', J', R')) : v_S G l 4 room_1 Q p e s m args below meth c cells slots 470 [some (.ref (1000000 + 5)), some (.ref 0), some (.ref 55), some (.int (nI i))] [] (K, I, J, R) := by
  refine ll_aload_n C (pc := 470) dL_law_470 rfl rfl ?_
  refine ll_ci C (pc := 471) (v_rV (jC_year G l h hK) rfl kV_L_50 (v_rcO (li_0 h.1) rfl (by decide)) ⟨Nat.le_of_ble_eq_true rfl, Nat.le_of_ble_eq_true rfl⟩ ⟨Nat.le_trans (Nat.add_le_add_right hc _) (Nat.le_of_ble_eq_true rfl), Nat.le_trans (Nat.add_le_add_right hs _) (Nat.le_of_ble_eq_true rfl)⟩ dL_law_471 (Nat.le_of_ble_eq_true rfl)) (fun x0 M0 h0 => ?_)
  obtain ⟨rfl, K1, I1, J1, R1, rfl, hH, hK1⟩ := h0
  refine ll_aload_n C (pc := 474) dL_law_474 rfl rfl ?_
  refine ll_ci C (pc := 475) (v_rV (jM_year G l hH) rfl kV_L_53 (v_rcO (li_55 hH.1) rfl (by decide)) ⟨Nat.le_of_ble_eq_true rfl, Nat.le_of_ble_eq_true rfl⟩ ⟨Nat.le_trans (Nat.add_le_add_right (Nat.add_le_add_right hc _) _) (Nat.le_of_ble_eq_true rfl), Nat.le_trans (Nat.add_le_add_right (Nat.add_le_add_right hs _) _) (Nat.le_of_ble_eq_true rfl)⟩ dL_law_475 (Nat.le_of_ble_eq_true rfl)) (fun x1 M1 h1 => ?_)
  obtain ⟨rfl, I2, J2, rfl, hJ⟩ := h1
  refine ll_icmp_eq C (pc := 478) (tgt := 1359) dL_law_478 (by decide) (fun _ => ?_) (fun q => absurd rfl q)
  exact ll_wide (by rw [Nat.add_assoc]; exact Nat.add_le_add_left (Nat.le_of_ble_eq_true rfl) _) (by rw [Nat.add_assoc]; exact Nat.add_le_add_left (Nat.le_of_ble_eq_true rfl) _) (kk _ _ _ _ _ hJ hK1)
set_option maxRecDepth 20000 in
theorem L_told {G : v_G} {l : Launch} {nm : String} {rt : Option FieldType} {Q : State → Prop} {p : Program} {e : Env} {s : State} {m : MethodId} {args : Array Value} {below : List Frame} {meth : Method} {c : Code} {L i : Nat} {xs : Nat → Int32} (C : v_C G l ⟨RL, nm, ""⟩ cL_law 4 rt p s m args meth c) (hX : va_X (G.2.2.2 5) L xs s s.heap) (hbl : G.2.2.2 5 < s.heap.size) (hbA : ¬ v_A G (G.2.2.2 5)) (hL : L ≤ 3072) (hi : i + 6 ≤ L) {K : Nat × v_TY} {I : Nat → Nat → Int32} {J : Nat → Nat → Int64} {R : Nat → Nat → Option Nat} {g : ZS} {cells slots : Nat} (h : ZJ K I J R g) (hK : K.1 < 700000) (hc : cells ≤ 600000) (hs : slots ≤ 7000000)
    (kk : ∀ K' I' J' R' g', ZJ K' I' J' R' g' → K'.1 ≤ K.1 + 6 → v_S G l 4 room_1 Q p e s m args below meth c (cells + 6) (slots + 300) 1359 [some (.ref (1000000 + 5)), some (.ref 0), some (.ref 55), some (.int (nI i))] [] (K', I', J', R')) : v_S G l 4 room_1 Q p e s m args below meth c cells slots 483 [some (.ref (1000000 + 5)), some (.ref 0), some (.ref 55), some (.int (nI i))] [] (K, I, J, R) := by
  refine ll_aload_n C (pc := 483) dL_law_483 rfl rfl ?_
  refine ll_arg C (pc := 484) (k := 1) hX hbl hbA hL (by omega) (by decide) rfl rfl dL_law_484 dL_law_485 dL_law_486 dL_law_487 dL_law_488 ?_
  refine ll_ci C (pc := 489) (v_rV (jC_told G l (ww := xs (i + 1)) h hK) rfl kV_L_54 (v_rcO (li_0 h.1) rfl (by decide)) ⟨Nat.le_of_ble_eq_true rfl, Nat.le_of_ble_eq_true rfl⟩ ⟨Nat.le_trans (Nat.add_le_add_right hc _) (Nat.le_of_ble_eq_true rfl), Nat.le_trans (Nat.add_le_add_right hs _) (Nat.le_of_ble_eq_true rfl)⟩ dL_law_489 (Nat.le_of_ble_eq_true rfl)) (fun x0 M0 h0 => ?_)
  obtain ⟨rfl, K1, I1, J1, R1, rfl, hH, hK1⟩ := h0
  refine ll_aload_n C (pc := 492) dL_law_492 rfl rfl ?_
  refine ll_arg C (pc := 493) (k := 1) hX hbl hbA hL (by omega) (by decide) rfl rfl dL_law_493 dL_law_494 dL_law_495 dL_law_496 dL_law_497 ?_
  refine ll_ci C (pc := 498) (v_rV (jM_told G l (ww := xs (i + 1)) hH) rfl kV_L_57 (v_rcO (li_55 hH.1) rfl (by decide)) ⟨Nat.le_of_ble_eq_true rfl, Nat.le_of_ble_eq_true rfl⟩ ⟨Nat.le_trans (Nat.add_le_add_right (Nat.add_le_add_right hc _) _) (Nat.le_of_ble_eq_true rfl), Nat.le_trans (Nat.add_le_add_right (Nat.add_le_add_right hs _) _) (Nat.le_of_ble_eq_true rfl)⟩ dL_law_498 (Nat.le_of_ble_eq_true rfl)) (fun x1 M1 h1 => ?_)
  obtain ⟨rfl, I2, J2, rfl, hJ⟩ := h1
  refine ll_icmp_eq C (pc := 501) (tgt := 1359) dL_law_501 (by decide) (fun _ => ?_) (fun q => absurd rfl q)
  exact ll_wide (by rw [Nat.add_assoc]; exact Nat.add_le_add_left (Nat.le_of_ble_eq_true rfl) _) (by rw [Nat.add_assoc]; exact Nat.add_le_add_left (Nat.le_of_ble_eq_true rfl) _) (kk _ _ _ _ _ hJ hK1)
set_option maxRecDepth 20000 in
theorem L_amiss {G : v_G} {l : Launch} {nm : String} {rt : Option FieldType} {Q : State → Prop} {p : Program} {e : Env} {s : State} {m : MethodId} {args : Array Value} {below : List Frame} {meth : Method} {c : Code} {L i : Nat} {xs : Nat → Int32} (C : v_C G l ⟨RL, nm, ""⟩ cL_law 4 rt p s m args meth c) (hX : va_X (G.2.2.2 5) L xs s s.heap) (hbl : G.2.2.2 5 < s.heap.size) (hbA : ¬ v_A G (G.2.2.2 5)) (hL : L ≤ 3072) (hi : i + 6 ≤ L) {K : Nat × v_TY} {I : Nat → Nat → Int32} {J : Nat → Nat → Int64} {R : Nat → Nat → Option Nat} {g : ZS} {cells slots : Nat} (h : ZJ K I J R g) (hK : K.1 < 700000) (hc : cells ≤ 600000) (hs : slots ≤ 7000000)
    (kk : ∀ K' I' J' R' g', ZJ K' I' J' R' g' → K'.1 ≤ K.1 + 6 → v_S G l 4 room_1 Q p e s m args below meth c (cells + 6) (slots + 300) 1359 [some (.ref (1000000 + 5)), some (.ref 0), some (.ref 55), some (.int (nI i))] [] (K', I', J', R')) : v_S G l 4 room_1 Q p e s m args below meth c cells slots 506 [some (.ref (1000000 + 5)), some (.ref 0), some (.ref 55), some (.int (nI i))] [] (K, I, J, R) := by
  refine ll_aload_n C (pc := 506) dL_law_506 rfl rfl ?_
  refine ll_arg C (pc := 507) (k := 1) hX hbl hbA hL (by omega) (by decide) rfl rfl dL_law_507 dL_law_508 dL_law_509 dL_law_510 dL_law_511 ?_
  refine ll_ci C (pc := 512) (v_rV (jC_amiss G l (ww := xs (i + 1)) h hK) rfl kV_L_58 (v_rcO (li_0 h.1) rfl (by decide)) ⟨Nat.le_of_ble_eq_true rfl, Nat.le_of_ble_eq_true rfl⟩ ⟨Nat.le_trans (Nat.add_le_add_right hc _) (Nat.le_of_ble_eq_true rfl), Nat.le_trans (Nat.add_le_add_right hs _) (Nat.le_of_ble_eq_true rfl)⟩ dL_law_512 (Nat.le_of_ble_eq_true rfl)) (fun x0 M0 h0 => ?_)
  obtain ⟨rfl, K1, I1, J1, R1, rfl, hH, hK1⟩ := h0
  refine ll_aload_n C (pc := 515) dL_law_515 rfl rfl ?_
  refine ll_arg C (pc := 516) (k := 1) hX hbl hbA hL (by omega) (by decide) rfl rfl dL_law_516 dL_law_517 dL_law_518 dL_law_519 dL_law_520 ?_
  refine ll_ci C (pc := 521) (v_rV (jM_amiss G l (ww := xs (i + 1)) hH) rfl kV_L_61 (v_rcO (li_55 hH.1) rfl (by decide)) ⟨Nat.le_of_ble_eq_true rfl, Nat.le_of_ble_eq_true rfl⟩ ⟨Nat.le_trans (Nat.add_le_add_right (Nat.add_le_add_right hc _) _) (Nat.le_of_ble_eq_true rfl), Nat.le_trans (Nat.add_le_add_right (Nat.add_le_add_right hs _) _) (Nat.le_of_ble_eq_true rfl)⟩ dL_law_521 (Nat.le_of_ble_eq_true rfl)) (fun x1 M1 h1 => ?_)
  obtain ⟨rfl, I2, J2, rfl, hJ⟩ := h1
  refine ll_icmp_eq C (pc := 524) (tgt := 1359) dL_law_524 (by decide) (fun _ => ?_) (fun q => absurd rfl q)
  exact ll_wide (by rw [Nat.add_assoc]; exact Nat.add_le_add_left (Nat.le_of_ble_eq_true rfl) _) (by rw [Nat.add_assoc]; exact Nat.add_le_add_left (Nat.le_of_ble_eq_true rfl) _) (kk _ _ _ _ _ hJ hK1)
set_option maxRecDepth 20000 in
theorem L_alls {G : v_G} {l : Launch} {nm : String} {rt : Option FieldType} {Q : State → Prop} {p : Program} {e : Env} {s : State} {m : MethodId} {args : Array Value} {below : List Frame} {meth : Method} {c : Code} {L i : Nat} {xs : Nat → Int32} (C : v_C G l ⟨RL, nm, ""⟩ cL_law 4 rt p s m args meth c) (hX : va_X (G.2.2.2 5) L xs s s.heap) (hbl : G.2.2.2 5 < s.heap.size) (hbA : ¬ v_A G (G.2.2.2 5)) (hL : L ≤ 3072) (hi : i + 6 ≤ L) {K : Nat × v_TY} {I : Nat → Nat → Int32} {J : Nat → Nat → Int64} {R : Nat → Nat → Option Nat} {g : ZS} {cells slots : Nat} (h : ZJ K I J R g) (hK : K.1 < 700000) (hc : cells ≤ 600000) (hs : slots ≤ 7000000)
    (kk : ∀ K' I' J' R' g', ZJ K' I' J' R' g' → K'.1 ≤ K.1 + 6 → v_S G l 4 room_1 Q p e s m args below meth c (cells + 6) (slots + 300) 1359 [some (.ref (1000000 + 5)), some (.ref 0), some (.ref 55), some (.int (nI i))] [] (K', I', J', R')) : v_S G l 4 room_1 Q p e s m args below meth c cells slots 529 [some (.ref (1000000 + 5)), some (.ref 0), some (.ref 55), some (.int (nI i))] [] (K, I, J, R) := by
  refine ll_aload_n C (pc := 529) dL_law_529 rfl rfl ?_
  refine ll_ci C (pc := 530) (v_rV (jC_alls G l h hK) rfl kV_L_62 (v_rcO (li_0 h.1) rfl (by decide)) ⟨Nat.le_of_ble_eq_true rfl, Nat.le_of_ble_eq_true rfl⟩ ⟨Nat.le_trans (Nat.add_le_add_right hc _) (Nat.le_of_ble_eq_true rfl), Nat.le_trans (Nat.add_le_add_right hs _) (Nat.le_of_ble_eq_true rfl)⟩ dL_law_530 (Nat.le_of_ble_eq_true rfl)) (fun x0 M0 h0 => ?_)
  obtain ⟨rfl, K1, I1, J1, R1, rfl, hH, hK1⟩ := h0
  refine ll_aload_n C (pc := 533) dL_law_533 rfl rfl ?_
  refine ll_ci C (pc := 534) (v_rV (jM_alls G l hH) rfl kV_L_65 (v_rcO (li_55 hH.1) rfl (by decide)) ⟨Nat.le_of_ble_eq_true rfl, Nat.le_of_ble_eq_true rfl⟩ ⟨Nat.le_trans (Nat.add_le_add_right (Nat.add_le_add_right hc _) _) (Nat.le_of_ble_eq_true rfl), Nat.le_trans (Nat.add_le_add_right (Nat.add_le_add_right hs _) _) (Nat.le_of_ble_eq_true rfl)⟩ dL_law_534 (Nat.le_of_ble_eq_true rfl)) (fun x1 M1 h1 => ?_)
  obtain ⟨rfl, I2, J2, rfl, hJ⟩ := h1
  refine ll_icmp_eq C (pc := 537) (tgt := 1359) dL_law_537 (by decide) (fun _ => ?_) (fun q => absurd rfl q)
  exact ll_wide (by rw [Nat.add_assoc]; exact Nat.add_le_add_left (Nat.le_of_ble_eq_true rfl) _) (by rw [Nat.add_assoc]; exact Nat.add_le_add_left (Nat.le_of_ble_eq_true rfl) _) (kk _ _ _ _ _ hJ hK1)
set_option maxRecDepth 20000 in
theorem L_first {G : v_G} {l : Launch} {nm : String} {rt : Option FieldType} {Q : State → Prop} {p : Program} {e : Env} {s : State} {m : MethodId} {args : Array Value} {below : List Frame} {meth : Method} {c : Code} {L i : Nat} {xs : Nat → Int32} (C : v_C G l ⟨RL, nm, ""⟩ cL_law 4 rt p s m args meth c) (hX : va_X (G.2.2.2 5) L xs s s.heap) (hbl : G.2.2.2 5 < s.heap.size) (hbA : ¬ v_A G (G.2.2.2 5)) (hL : L ≤ 3072) (hi : i + 6 ≤ L) {K : Nat × v_TY} {I : Nat → Nat → Int32} {J : Nat → Nat → Int64} {R : Nat → Nat → Option Nat} {g : ZS} {cells slots : Nat} (h : ZJ K I J R g) (hK : K.1 < 700000) (hc : cells ≤ 600000) (hs : slots ≤ 7000000)
    (kk : ∀ K' I' J' R' g', ZJ K' I' J' R' g' → K'.1 ≤ K.1 + 6 → v_S G l 4 room_1 Q p e s m args below meth c (cells + 6) (slots + 300) 1359 [some (.ref (1000000 + 5)), some (.ref 0), some (.ref 55), some (.int (nI i))] [] (K', I', J', R')) : v_S G l 4 room_1 Q p e s m args below meth c cells slots 542 [some (.ref (1000000 + 5)), some (.ref 0), some (.ref 55), some (.int (nI i))] [] (K, I, J, R) := by
  refine ll_aload_n C (pc := 542) dL_law_542 rfl rfl ?_
  refine ll_arg C (pc := 543) (k := 1) hX hbl hbA hL (by omega) (by decide) rfl rfl dL_law_543 dL_law_544 dL_law_545 dL_law_546 dL_law_547 ?_
  refine ll_ci C (pc := 548) (v_rV (jC_first G l (ww := xs (i + 1)) h hK) rfl kV_L_66 (v_rcO (li_0 h.1) rfl (by decide)) ⟨Nat.le_of_ble_eq_true rfl, Nat.le_of_ble_eq_true rfl⟩ ⟨Nat.le_trans (Nat.add_le_add_right hc _) (Nat.le_of_ble_eq_true rfl), Nat.le_trans (Nat.add_le_add_right hs _) (Nat.le_of_ble_eq_true rfl)⟩ dL_law_548 (Nat.le_of_ble_eq_true rfl)) (fun x0 M0 h0 => ?_)
  obtain ⟨rfl, K1, I1, J1, R1, rfl, hH, hK1⟩ := h0
  refine ll_aload_n C (pc := 551) dL_law_551 rfl rfl ?_
  refine ll_arg C (pc := 552) (k := 1) hX hbl hbA hL (by omega) (by decide) rfl rfl dL_law_552 dL_law_553 dL_law_554 dL_law_555 dL_law_556 ?_
  refine ll_ci C (pc := 557) (v_rV (jM_first G l (ww := xs (i + 1)) hH) rfl kV_L_69 (v_rcO (li_55 hH.1) rfl (by decide)) ⟨Nat.le_of_ble_eq_true rfl, Nat.le_of_ble_eq_true rfl⟩ ⟨Nat.le_trans (Nat.add_le_add_right (Nat.add_le_add_right hc _) _) (Nat.le_of_ble_eq_true rfl), Nat.le_trans (Nat.add_le_add_right (Nat.add_le_add_right hs _) _) (Nat.le_of_ble_eq_true rfl)⟩ dL_law_557 (Nat.le_of_ble_eq_true rfl)) (fun x1 M1 h1 => ?_)
  obtain ⟨rfl, I2, J2, rfl, hJ⟩ := h1
  refine ll_icmp_eq C (pc := 560) (tgt := 1359) dL_law_560 (by decide) (fun _ => ?_) (fun q => absurd rfl q)
  exact ll_wide (by rw [Nat.add_assoc]; exact Nat.add_le_add_left (Nat.le_of_ble_eq_true rfl) _) (by rw [Nat.add_assoc]; exact Nat.add_le_add_left (Nat.le_of_ble_eq_true rfl) _) (kk _ _ _ _ _ hJ hK1)
set_option maxRecDepth 20000 in
theorem L_cheapest {G : v_G} {l : Launch} {nm : String} {rt : Option FieldType} {Q : State → Prop} {p : Program} {e : Env} {s : State} {m : MethodId} {args : Array Value} {below : List Frame} {meth : Method} {c : Code} {L i : Nat} {xs : Nat → Int32} (C : v_C G l ⟨RL, nm, ""⟩ cL_law 4 rt p s m args meth c) (hX : va_X (G.2.2.2 5) L xs s s.heap) (hbl : G.2.2.2 5 < s.heap.size) (hbA : ¬ v_A G (G.2.2.2 5)) (hL : L ≤ 3072) (hi : i + 6 ≤ L) {K : Nat × v_TY} {I : Nat → Nat → Int32} {J : Nat → Nat → Int64} {R : Nat → Nat → Option Nat} {g : ZS} {cells slots : Nat} (h : ZJ K I J R g) (hK : K.1 < 700000) (hc : cells ≤ 600000) (hs : slots ≤ 7000000)
    (kk : ∀ K' I' J' R' g', ZJ K' I' J' R' g' → K'.1 ≤ K.1 + 6 → v_S G l 4 room_1 Q p e s m args below meth c (cells + 6) (slots + 300) 1359 [some (.ref (1000000 + 5)), some (.ref 0), some (.ref 55), some (.int (nI i))] [] (K', I', J', R')) : v_S G l 4 room_1 Q p e s m args below meth c cells slots 565 [some (.ref (1000000 + 5)), some (.ref 0), some (.ref 55), some (.int (nI i))] [] (K, I, J, R) := by
  refine ll_aload_n C (pc := 565) dL_law_565 rfl rfl ?_
  refine ll_arg C (pc := 566) (k := 1) hX hbl hbA hL (by omega) (by decide) rfl rfl dL_law_566 dL_law_567 dL_law_568 dL_law_569 dL_law_570 ?_
  refine ll_ci C (pc := 571) (v_rV (jC_cheapest G l (ww := xs (i + 1)) h hK) rfl kV_L_70 (v_rcO (li_0 h.1) rfl (by decide)) ⟨Nat.le_of_ble_eq_true rfl, Nat.le_of_ble_eq_true rfl⟩ ⟨Nat.le_trans (Nat.add_le_add_right hc _) (Nat.le_of_ble_eq_true rfl), Nat.le_trans (Nat.add_le_add_right hs _) (Nat.le_of_ble_eq_true rfl)⟩ dL_law_571 (Nat.le_of_ble_eq_true rfl)) (fun x0 M0 h0 => ?_)
  obtain ⟨rfl, K1, I1, J1, R1, rfl, hH, hK1⟩ := h0
  refine ll_aload_n C (pc := 574) dL_law_574 rfl rfl ?_
  refine ll_arg C (pc := 575) (k := 1) hX hbl hbA hL (by omega) (by decide) rfl rfl dL_law_575 dL_law_576 dL_law_577 dL_law_578 dL_law_579 ?_
  refine ll_ci C (pc := 580) (v_rV (jM_cheapest G l (ww := xs (i + 1)) hH) rfl kV_L_73 (v_rcO (li_55 hH.1) rfl (by decide)) ⟨Nat.le_of_ble_eq_true rfl, Nat.le_of_ble_eq_true rfl⟩ ⟨Nat.le_trans (Nat.add_le_add_right (Nat.add_le_add_right hc _) _) (Nat.le_of_ble_eq_true rfl), Nat.le_trans (Nat.add_le_add_right (Nat.add_le_add_right hs _) _) (Nat.le_of_ble_eq_true rfl)⟩ dL_law_580 (Nat.le_of_ble_eq_true rfl)) (fun x1 M1 h1 => ?_)
  obtain ⟨rfl, I2, J2, rfl, hJ⟩ := h1
  refine ll_icmp_eq C (pc := 583) (tgt := 1359) dL_law_583 (by decide) (fun _ => ?_) (fun q => absurd rfl q)
  exact ll_wide (by rw [Nat.add_assoc]; exact Nat.add_le_add_left (Nat.le_of_ble_eq_true rfl) _) (by rw [Nat.add_assoc]; exact Nat.add_le_add_left (Nat.le_of_ble_eq_true rfl) _) (kk _ _ _ _ _ hJ hK1)
set_option maxRecDepth 20000 in
theorem L_goes {G : v_G} {l : Launch} {nm : String} {rt : Option FieldType} {Q : State → Prop} {p : Program} {e : Env} {s : State} {m : MethodId} {args : Array Value} {below : List Frame} {meth : Method} {c : Code} {L i : Nat} {xs : Nat → Int32} (C : v_C G l ⟨RL, nm, ""⟩ cL_law 4 rt p s m args meth c) (hX : va_X (G.2.2.2 5) L xs s s.heap) (hbl : G.2.2.2 5 < s.heap.size) (hbA : ¬ v_A G (G.2.2.2 5)) (hL : L ≤ 3072) (hi : i + 6 ≤ L) {K : Nat × v_TY} {I : Nat → Nat → Int32} {J : Nat → Nat → Int64} {R : Nat → Nat → Option Nat} {g : ZS} {cells slots : Nat} (h : ZJ K I J R g) (hK : K.1 < 700000) (hc : cells ≤ 600000) (hs : slots ≤ 7000000)
    (kk : ∀ K' I' J' R' g', ZJ K' I' J' R' g' → K'.1 ≤ K.1 + 6 → v_S G l 4 room_1 Q p e s m args below meth c (cells + 6) (slots + 300) 1359 [some (.ref (1000000 + 5)), some (.ref 0), some (.ref 55), some (.int (nI i))] [] (K', I', J', R')) : v_S G l 4 room_1 Q p e s m args below meth c cells slots 588 [some (.ref (1000000 + 5)), some (.ref 0), some (.ref 55), some (.int (nI i))] [] (K, I, J, R) := by
  refine ll_aload_n C (pc := 588) dL_law_588 rfl rfl ?_
  refine ll_arg C (pc := 589) (k := 1) hX hbl hbA hL (by omega) (by decide) rfl rfl dL_law_589 dL_law_590 dL_law_591 dL_law_592 dL_law_593 ?_
  refine ll_ci C (pc := 594) (v_rV (jC_goes G l (ww := xs (i + 1)) h hK) rfl kV_L_74 (v_rcO (li_0 h.1) rfl (by decide)) ⟨Nat.le_of_ble_eq_true rfl, Nat.le_of_ble_eq_true rfl⟩ ⟨Nat.le_trans (Nat.add_le_add_right hc _) (Nat.le_of_ble_eq_true rfl), Nat.le_trans (Nat.add_le_add_right hs _) (Nat.le_of_ble_eq_true rfl)⟩ dL_law_594 (Nat.le_of_ble_eq_true rfl)) (fun x0 M0 h0 => ?_)
  obtain ⟨rfl, K1, I1, J1, R1, rfl, hH, hK1⟩ := h0
  refine ll_aload_n C (pc := 597) dL_law_597 rfl rfl ?_
  refine ll_arg C (pc := 598) (k := 1) hX hbl hbA hL (by omega) (by decide) rfl rfl dL_law_598 dL_law_599 dL_law_600 dL_law_601 dL_law_602 ?_
  refine ll_ci C (pc := 603) (v_rV (jM_goes G l (ww := xs (i + 1)) hH) rfl kV_L_77 (v_rcO (li_55 hH.1) rfl (by decide)) ⟨Nat.le_of_ble_eq_true rfl, Nat.le_of_ble_eq_true rfl⟩ ⟨Nat.le_trans (Nat.add_le_add_right (Nat.add_le_add_right hc _) _) (Nat.le_of_ble_eq_true rfl), Nat.le_trans (Nat.add_le_add_right (Nat.add_le_add_right hs _) _) (Nat.le_of_ble_eq_true rfl)⟩ dL_law_603 (Nat.le_of_ble_eq_true rfl)) (fun x1 M1 h1 => ?_)
  obtain ⟨rfl, I2, J2, rfl, hJ⟩ := h1
  refine ll_icmp_eq C (pc := 606) (tgt := 1359) dL_law_606 (by decide) (fun _ => ?_) (fun q => absurd rfl q)
  exact ll_wide (by rw [Nat.add_assoc]; exact Nat.add_le_add_left (Nat.le_of_ble_eq_true rfl) _) (by rw [Nat.add_assoc]; exact Nat.add_le_add_left (Nat.le_of_ble_eq_true rfl) _) (kk _ _ _ _ _ hJ hK1)
set_option maxRecDepth 20000 in
theorem L_befriends {G : v_G} {l : Launch} {nm : String} {rt : Option FieldType} {Q : State → Prop} {p : Program} {e : Env} {s : State} {m : MethodId} {args : Array Value} {below : List Frame} {meth : Method} {c : Code} {L i : Nat} {xs : Nat → Int32} (C : v_C G l ⟨RL, nm, ""⟩ cL_law 4 rt p s m args meth c) (hX : va_X (G.2.2.2 5) L xs s s.heap) (hbl : G.2.2.2 5 < s.heap.size) (hbA : ¬ v_A G (G.2.2.2 5)) (hL : L ≤ 3072) (hi : i + 6 ≤ L) {K : Nat × v_TY} {I : Nat → Nat → Int32} {J : Nat → Nat → Int64} {R : Nat → Nat → Option Nat} {g : ZS} {cells slots : Nat} (h : ZJ K I J R g) (hK : K.1 < 700000) (hc : cells ≤ 600000) (hs : slots ≤ 7000000)
    (kk : ∀ K' I' J' R' g', ZJ K' I' J' R' g' → K'.1 ≤ K.1 + 6 → v_S G l 4 room_1 Q p e s m args below meth c (cells + 6) (slots + 300) 1359 [some (.ref (1000000 + 5)), some (.ref 0), some (.ref 55), some (.int (nI i))] [] (K', I', J', R')) : v_S G l 4 room_1 Q p e s m args below meth c cells slots 611 [some (.ref (1000000 + 5)), some (.ref 0), some (.ref 55), some (.int (nI i))] [] (K, I, J, R) := by
  refine ll_aload_n C (pc := 611) dL_law_611 rfl rfl ?_
  refine ll_arg C (pc := 612) (k := 1) hX hbl hbA hL (by omega) (by decide) rfl rfl dL_law_612 dL_law_613 dL_law_614 dL_law_615 dL_law_616 ?_
  refine ll_arg C (pc := 617) (k := 2) hX hbl hbA hL (by omega) (by decide) rfl rfl dL_law_617 dL_law_618 dL_law_619 dL_law_620 dL_law_621 ?_
  refine ll_arg C (pc := 622) (k := 3) hX hbl hbA hL (by omega) (by decide) rfl rfl dL_law_622 dL_law_623 dL_law_624 dL_law_625 dL_law_626 ?_
  refine ll_ci C (pc := 627) (v_rV (jC_befriends G l (kk := xs (i + 1)) (vv := xs (i + 2)) (ww := xs (i + 3)) h hK) rfl kV_L_78 (v_rcO (li_0 h.1) rfl (by decide)) ⟨Nat.le_of_ble_eq_true rfl, Nat.le_of_ble_eq_true rfl⟩ ⟨Nat.le_trans (Nat.add_le_add_right hc _) (Nat.le_of_ble_eq_true rfl), Nat.le_trans (Nat.add_le_add_right hs _) (Nat.le_of_ble_eq_true rfl)⟩ dL_law_627 (Nat.le_of_ble_eq_true rfl)) (fun x0 M0 h0 => ?_)
  obtain ⟨rfl, K1, I1, J1, R1, rfl, hH, hK1⟩ := h0
  refine ll_aload_n C (pc := 630) dL_law_630 rfl rfl ?_
  refine ll_arg C (pc := 631) (k := 1) hX hbl hbA hL (by omega) (by decide) rfl rfl dL_law_631 dL_law_632 dL_law_633 dL_law_634 dL_law_635 ?_
  refine ll_arg C (pc := 636) (k := 2) hX hbl hbA hL (by omega) (by decide) rfl rfl dL_law_636 dL_law_637 dL_law_638 dL_law_639 dL_law_640 ?_
  refine ll_arg C (pc := 641) (k := 3) hX hbl hbA hL (by omega) (by decide) rfl rfl dL_law_641 dL_law_642 dL_law_643 dL_law_644 dL_law_645 ?_
  refine ll_ci C (pc := 646) (v_rV (jM_befriends G l (kk := xs (i + 1)) (vv := xs (i + 2)) (ww := xs (i + 3)) hH) rfl kV_L_81 (v_rcO (li_55 hH.1) rfl (by decide)) ⟨Nat.le_of_ble_eq_true rfl, Nat.le_of_ble_eq_true rfl⟩ ⟨Nat.le_trans (Nat.add_le_add_right (Nat.add_le_add_right hc _) _) (Nat.le_of_ble_eq_true rfl), Nat.le_trans (Nat.add_le_add_right (Nat.add_le_add_right hs _) _) (Nat.le_of_ble_eq_true rfl)⟩ dL_law_646 (Nat.le_of_ble_eq_true rfl)) (fun x1 M1 h1 => ?_)
  obtain ⟨rfl, I2, J2, rfl, hJ⟩ := h1
  refine ll_icmp_eq C (pc := 649) (tgt := 1359) dL_law_649 (by decide) (fun _ => ?_) (fun q => absurd rfl q)
  exact ll_wide (by rw [Nat.add_assoc]; exact Nat.add_le_add_left (Nat.le_of_ble_eq_true rfl) _) (by rw [Nat.add_assoc]; exact Nat.add_le_add_left (Nat.le_of_ble_eq_true rfl) _) (kk _ _ _ _ _ hJ hK1)
set_option maxRecDepth 20000 in
theorem L_complain {G : v_G} {l : Launch} {nm : String} {rt : Option FieldType} {Q : State → Prop} {p : Program} {e : Env} {s : State} {m : MethodId} {args : Array Value} {below : List Frame} {meth : Method} {c : Code} {L i : Nat} {xs : Nat → Int32} (C : v_C G l ⟨RL, nm, ""⟩ cL_law 4 rt p s m args meth c) (hX : va_X (G.2.2.2 5) L xs s s.heap) (hbl : G.2.2.2 5 < s.heap.size) (hbA : ¬ v_A G (G.2.2.2 5)) (hL : L ≤ 3072) (hi : i + 6 ≤ L) {K : Nat × v_TY} {I : Nat → Nat → Int32} {J : Nat → Nat → Int64} {R : Nat → Nat → Option Nat} {g : ZS} {cells slots : Nat} (h : ZJ K I J R g) (hK : K.1 < 700000) (hc : cells ≤ 600000) (hs : slots ≤ 7000000)
    (kk : ∀ K' I' J' R' g', ZJ K' I' J' R' g' → K'.1 ≤ K.1 + 6 → v_S G l 4 room_1 Q p e s m args below meth c (cells + 6) (slots + 300) 1359 [some (.ref (1000000 + 5)), some (.ref 0), some (.ref 55), some (.int (nI i))] [] (K', I', J', R')) : v_S G l 4 room_1 Q p e s m args below meth c cells slots 654 [some (.ref (1000000 + 5)), some (.ref 0), some (.ref 55), some (.int (nI i))] [] (K, I, J, R) := by
  refine ll_aload_n C (pc := 654) dL_law_654 rfl rfl ?_
  refine ll_arg C (pc := 655) (k := 1) hX hbl hbA hL (by omega) (by decide) rfl rfl dL_law_655 dL_law_656 dL_law_657 dL_law_658 dL_law_659 ?_
  refine ll_arg C (pc := 660) (k := 2) hX hbl hbA hL (by omega) (by decide) rfl rfl dL_law_660 dL_law_661 dL_law_662 dL_law_663 dL_law_664 ?_
  refine ll_ci C (pc := 665) (v_rV (jC_complain G l (pp := xs (i + 1)) (dd := xs (i + 2)) h hK) rfl kV_L_82 (v_rcO (li_0 h.1) rfl (by decide)) ⟨Nat.le_of_ble_eq_true rfl, Nat.le_of_ble_eq_true rfl⟩ ⟨Nat.le_trans (Nat.add_le_add_right hc _) (Nat.le_of_ble_eq_true rfl), Nat.le_trans (Nat.add_le_add_right hs _) (Nat.le_of_ble_eq_true rfl)⟩ dL_law_665 (Nat.le_of_ble_eq_true rfl)) (fun x0 M0 h0 => ?_)
  obtain ⟨rfl, K1, I1, J1, R1, rfl, hH, hK1⟩ := h0
  refine ll_aload_n C (pc := 668) dL_law_668 rfl rfl ?_
  refine ll_arg C (pc := 669) (k := 1) hX hbl hbA hL (by omega) (by decide) rfl rfl dL_law_669 dL_law_670 dL_law_671 dL_law_672 dL_law_673 ?_
  refine ll_arg C (pc := 674) (k := 2) hX hbl hbA hL (by omega) (by decide) rfl rfl dL_law_674 dL_law_675 dL_law_676 dL_law_677 dL_law_678 ?_
  refine ll_ci C (pc := 679) (v_rV (jM_complain G l (pp := xs (i + 1)) (dd := xs (i + 2)) hH) rfl kV_L_85 (v_rcO (li_55 hH.1) rfl (by decide)) ⟨Nat.le_of_ble_eq_true rfl, Nat.le_of_ble_eq_true rfl⟩ ⟨Nat.le_trans (Nat.add_le_add_right (Nat.add_le_add_right hc _) _) (Nat.le_of_ble_eq_true rfl), Nat.le_trans (Nat.add_le_add_right (Nat.add_le_add_right hs _) _) (Nat.le_of_ble_eq_true rfl)⟩ dL_law_679 (Nat.le_of_ble_eq_true rfl)) (fun x1 M1 h1 => ?_)
  obtain ⟨rfl, I2, J2, rfl, hJ⟩ := h1
  refine ll_icmp_eq C (pc := 682) (tgt := 1359) dL_law_682 (by decide) (fun _ => ?_) (fun q => absurd rfl q)
  exact ll_wide (by rw [Nat.add_assoc]; exact Nat.add_le_add_left (Nat.le_of_ble_eq_true rfl) _) (by rw [Nat.add_assoc]; exact Nat.add_le_add_left (Nat.le_of_ble_eq_true rfl) _) (kk _ _ _ _ _ hJ hK1)
set_option maxRecDepth 20000 in
theorem L_made {G : v_G} {l : Launch} {nm : String} {rt : Option FieldType} {Q : State → Prop} {p : Program} {e : Env} {s : State} {m : MethodId} {args : Array Value} {below : List Frame} {meth : Method} {c : Code} {L i : Nat} {xs : Nat → Int32} (C : v_C G l ⟨RL, nm, ""⟩ cL_law 4 rt p s m args meth c) (hX : va_X (G.2.2.2 5) L xs s s.heap) (hbl : G.2.2.2 5 < s.heap.size) (hbA : ¬ v_A G (G.2.2.2 5)) (hL : L ≤ 3072) (hi : i + 6 ≤ L) {K : Nat × v_TY} {I : Nat → Nat → Int32} {J : Nat → Nat → Int64} {R : Nat → Nat → Option Nat} {g : ZS} {cells slots : Nat} (h : ZJ K I J R g) (hK : K.1 < 700000) (hc : cells ≤ 600000) (hs : slots ≤ 7000000)
    (kk : ∀ K' I' J' R' g', ZJ K' I' J' R' g' → K'.1 ≤ K.1 + 6 → v_S G l 4 room_1 Q p e s m args below meth c (cells + 6) (slots + 300) 1359 [some (.ref (1000000 + 5)), some (.ref 0), some (.ref 55), some (.int (nI i))] [] (K', I', J', R')) : v_S G l 4 room_1 Q p e s m args below meth c cells slots 687 [some (.ref (1000000 + 5)), some (.ref 0), some (.ref 55), some (.int (nI i))] [] (K, I, J, R) := by
  refine ll_aload_n C (pc := 687) dL_law_687 rfl rfl ?_
  refine ll_ci C (pc := 688) (v_rV (jC_made G l h hK) rfl kV_L_86 (v_rcO (li_0 h.1) rfl (by decide)) ⟨Nat.le_of_ble_eq_true rfl, Nat.le_of_ble_eq_true rfl⟩ ⟨Nat.le_trans (Nat.add_le_add_right hc _) (Nat.le_of_ble_eq_true rfl), Nat.le_trans (Nat.add_le_add_right hs _) (Nat.le_of_ble_eq_true rfl)⟩ dL_law_688 (Nat.le_of_ble_eq_true rfl)) (fun x0 M0 h0 => ?_)
  obtain ⟨rfl, K1, I1, J1, R1, rfl, hH, hK1⟩ := h0
  refine ll_aload_n C (pc := 691) dL_law_691 rfl rfl ?_
  refine ll_ci C (pc := 692) (v_rV (jM_made G l hH) rfl kV_L_89 (v_rcO (li_55 hH.1) rfl (by decide)) ⟨Nat.le_of_ble_eq_true rfl, Nat.le_of_ble_eq_true rfl⟩ ⟨Nat.le_trans (Nat.add_le_add_right (Nat.add_le_add_right hc _) _) (Nat.le_of_ble_eq_true rfl), Nat.le_trans (Nat.add_le_add_right (Nat.add_le_add_right hs _) _) (Nat.le_of_ble_eq_true rfl)⟩ dL_law_692 (Nat.le_of_ble_eq_true rfl)) (fun x1 M1 h1 => ?_)
  obtain ⟨rfl, I2, J2, rfl, hJ⟩ := h1
  refine ll_icmp_eq C (pc := 695) (tgt := 1359) dL_law_695 (by decide) (fun _ => ?_) (fun q => absurd rfl q)
  exact ll_wide (by rw [Nat.add_assoc]; exact Nat.add_le_add_left (Nat.le_of_ble_eq_true rfl) _) (by rw [Nat.add_assoc]; exact Nat.add_le_add_left (Nat.le_of_ble_eq_true rfl) _) (kk _ _ _ _ _ hJ hK1)
set_option maxRecDepth 20000 in
theorem L_far {G : v_G} {l : Launch} {nm : String} {rt : Option FieldType} {Q : State → Prop} {p : Program} {e : Env} {s : State} {m : MethodId} {args : Array Value} {below : List Frame} {meth : Method} {c : Code} {L i : Nat} {xs : Nat → Int32} (C : v_C G l ⟨RL, nm, ""⟩ cL_law 4 rt p s m args meth c) (hX : va_X (G.2.2.2 5) L xs s s.heap) (hbl : G.2.2.2 5 < s.heap.size) (hbA : ¬ v_A G (G.2.2.2 5)) (hL : L ≤ 3072) (hi : i + 6 ≤ L) {K : Nat × v_TY} {I : Nat → Nat → Int32} {J : Nat → Nat → Int64} {R : Nat → Nat → Option Nat} {g : ZS} {cells slots : Nat} (h : ZJ K I J R g) (hK : K.1 < 700000) (hc : cells ≤ 600000) (hs : slots ≤ 7000000)
    (kk : ∀ K' I' J' R' g', ZJ K' I' J' R' g' → K'.1 ≤ K.1 + 6 → v_S G l 4 room_1 Q p e s m args below meth c (cells + 6) (slots + 300) 1359 [some (.ref (1000000 + 5)), some (.ref 0), some (.ref 55), some (.int (nI i))] [] (K', I', J', R')) : v_S G l 4 room_1 Q p e s m args below meth c cells slots 700 [some (.ref (1000000 + 5)), some (.ref 0), some (.ref 55), some (.int (nI i))] [] (K, I, J, R) := by
  refine ll_aload_n C (pc := 700) dL_law_700 rfl rfl ?_
  refine ll_arg C (pc := 701) (k := 1) hX hbl hbA hL (by omega) (by decide) rfl rfl dL_law_701 dL_law_702 dL_law_703 dL_law_704 dL_law_705 ?_
  refine ll_arg C (pc := 706) (k := 2) hX hbl hbA hL (by omega) (by decide) rfl rfl dL_law_706 dL_law_707 dL_law_708 dL_law_709 dL_law_710 ?_
  refine ll_ci C (pc := 711) (v_rV (jC_far G l (pp := xs (i + 1)) (qq := xs (i + 2)) h hK) rfl kV_L_90 (v_rcO (li_0 h.1) rfl (by decide)) ⟨Nat.le_of_ble_eq_true rfl, Nat.le_of_ble_eq_true rfl⟩ ⟨Nat.le_trans (Nat.add_le_add_right hc _) (Nat.le_of_ble_eq_true rfl), Nat.le_trans (Nat.add_le_add_right hs _) (Nat.le_of_ble_eq_true rfl)⟩ dL_law_711 (Nat.le_of_ble_eq_true rfl)) (fun x0 M0 h0 => ?_)
  obtain ⟨rfl, K1, I1, J1, R1, rfl, hH, hK1⟩ := h0
  refine ll_aload_n C (pc := 714) dL_law_714 rfl rfl ?_
  refine ll_arg C (pc := 715) (k := 1) hX hbl hbA hL (by omega) (by decide) rfl rfl dL_law_715 dL_law_716 dL_law_717 dL_law_718 dL_law_719 ?_
  refine ll_arg C (pc := 720) (k := 2) hX hbl hbA hL (by omega) (by decide) rfl rfl dL_law_720 dL_law_721 dL_law_722 dL_law_723 dL_law_724 ?_
  refine ll_ci C (pc := 725) (v_rV (jM_far G l (pp := xs (i + 1)) (qq := xs (i + 2)) hH) rfl kV_L_93 (v_rcO (li_55 hH.1) rfl (by decide)) ⟨Nat.le_of_ble_eq_true rfl, Nat.le_of_ble_eq_true rfl⟩ ⟨Nat.le_trans (Nat.add_le_add_right (Nat.add_le_add_right hc _) _) (Nat.le_of_ble_eq_true rfl), Nat.le_trans (Nat.add_le_add_right (Nat.add_le_add_right hs _) _) (Nat.le_of_ble_eq_true rfl)⟩ dL_law_725 (Nat.le_of_ble_eq_true rfl)) (fun x1 M1 h1 => ?_)
  obtain ⟨rfl, I2, J2, rfl, hJ⟩ := h1
  refine ll_icmp_eq C (pc := 728) (tgt := 1359) dL_law_728 (by decide) (fun _ => ?_) (fun q => absurd rfl q)
  exact ll_wide (by rw [Nat.add_assoc]; exact Nat.add_le_add_left (Nat.le_of_ble_eq_true rfl) _) (by rw [Nat.add_assoc]; exact Nat.add_le_add_left (Nat.le_of_ble_eq_true rfl) _) (kk _ _ _ _ _ hJ hK1)
set_option maxRecDepth 20000 in
theorem L_towns {G : v_G} {l : Launch} {nm : String} {rt : Option FieldType} {Q : State → Prop} {p : Program} {e : Env} {s : State} {m : MethodId} {args : Array Value} {below : List Frame} {meth : Method} {c : Code} {L i : Nat} {xs : Nat → Int32} (C : v_C G l ⟨RL, nm, ""⟩ cL_law 4 rt p s m args meth c) (hX : va_X (G.2.2.2 5) L xs s s.heap) (hbl : G.2.2.2 5 < s.heap.size) (hbA : ¬ v_A G (G.2.2.2 5)) (hL : L ≤ 3072) (hi : i + 6 ≤ L) {K : Nat × v_TY} {I : Nat → Nat → Int32} {J : Nat → Nat → Int64} {R : Nat → Nat → Option Nat} {g : ZS} {cells slots : Nat} (h : ZJ K I J R g) (hK : K.1 < 700000) (hc : cells ≤ 600000) (hs : slots ≤ 7000000)
    (kk : ∀ K' I' J' R' g', ZJ K' I' J' R' g' → K'.1 ≤ K.1 + 6 → v_S G l 4 room_1 Q p e s m args below meth c (cells + 6) (slots + 300) 1359 [some (.ref (1000000 + 5)), some (.ref 0), some (.ref 55), some (.int (nI i))] [] (K', I', J', R')) : v_S G l 4 room_1 Q p e s m args below meth c cells slots 733 [some (.ref (1000000 + 5)), some (.ref 0), some (.ref 55), some (.int (nI i))] [] (K, I, J, R) := by
  refine ll_aload_n C (pc := 733) dL_law_733 rfl rfl ?_
  refine ll_arg C (pc := 734) (k := 1) hX hbl hbA hL (by omega) (by decide) rfl rfl dL_law_734 dL_law_735 dL_law_736 dL_law_737 dL_law_738 ?_
  refine ll_arg C (pc := 739) (k := 2) hX hbl hbA hL (by omega) (by decide) rfl rfl dL_law_739 dL_law_740 dL_law_741 dL_law_742 dL_law_743 ?_
  refine ll_ci C (pc := 744) (v_rV (jC_towns G l (nn := xs (i + 1)) (kk := xs (i + 2)) h hK) rfl kV_L_94 (v_rcO (li_0 h.1) rfl (by decide)) ⟨Nat.le_of_ble_eq_true rfl, Nat.le_of_ble_eq_true rfl⟩ ⟨Nat.le_trans (Nat.add_le_add_right hc _) (Nat.le_of_ble_eq_true rfl), Nat.le_trans (Nat.add_le_add_right hs _) (Nat.le_of_ble_eq_true rfl)⟩ dL_law_744 (Nat.le_of_ble_eq_true rfl)) (fun x0 M0 h0 => ?_)
  obtain ⟨rfl, K1, I1, J1, R1, rfl, hH, hK1⟩ := h0
  refine ll_aload_n C (pc := 747) dL_law_747 rfl rfl ?_
  refine ll_arg C (pc := 748) (k := 1) hX hbl hbA hL (by omega) (by decide) rfl rfl dL_law_748 dL_law_749 dL_law_750 dL_law_751 dL_law_752 ?_
  refine ll_arg C (pc := 753) (k := 2) hX hbl hbA hL (by omega) (by decide) rfl rfl dL_law_753 dL_law_754 dL_law_755 dL_law_756 dL_law_757 ?_
  refine ll_ci C (pc := 758) (v_rV (jM_towns G l (nn := xs (i + 1)) (kk := xs (i + 2)) hH) rfl kV_L_97 (v_rcO (li_55 hH.1) rfl (by decide)) ⟨Nat.le_of_ble_eq_true rfl, Nat.le_of_ble_eq_true rfl⟩ ⟨Nat.le_trans (Nat.add_le_add_right (Nat.add_le_add_right hc _) _) (Nat.le_of_ble_eq_true rfl), Nat.le_trans (Nat.add_le_add_right (Nat.add_le_add_right hs _) _) (Nat.le_of_ble_eq_true rfl)⟩ dL_law_758 (Nat.le_of_ble_eq_true rfl)) (fun x1 M1 h1 => ?_)
  obtain ⟨rfl, I2, J2, rfl, hJ⟩ := h1
  refine ll_icmp_eq C (pc := 761) (tgt := 1359) dL_law_761 (by decide) (fun _ => ?_) (fun q => absurd rfl q)
  exact ll_wide (by rw [Nat.add_assoc]; exact Nat.add_le_add_left (Nat.le_of_ble_eq_true rfl) _) (by rw [Nat.add_assoc]; exact Nat.add_le_add_left (Nat.le_of_ble_eq_true rfl) _) (kk _ _ _ _ _ hJ hK1)
set_option maxRecDepth 20000 in
theorem L_next {G : v_G} {l : Launch} {nm : String} {rt : Option FieldType} {Q : State → Prop} {p : Program} {e : Env} {s : State} {m : MethodId} {args : Array Value} {below : List Frame} {meth : Method} {c : Code} {L i : Nat} {xs : Nat → Int32} (C : v_C G l ⟨RL, nm, ""⟩ cL_law 4 rt p s m args meth c) (hX : va_X (G.2.2.2 5) L xs s s.heap) (hbl : G.2.2.2 5 < s.heap.size) (hbA : ¬ v_A G (G.2.2.2 5)) (hL : L ≤ 3072) (hi : i + 6 ≤ L) {K : Nat × v_TY} {I : Nat → Nat → Int32} {J : Nat → Nat → Int64} {R : Nat → Nat → Option Nat} {g : ZS} {cells slots : Nat} (h : ZJ K I J R g) (hK : K.1 < 700000) (hc : cells ≤ 600000) (hs : slots ≤ 7000000)
    (kk : ∀ K' I' J' R' g', ZJ K' I' J' R' g' → K'.1 ≤ K.1 + 6 → v_S G l 4 room_1 Q p e s m args below meth c (cells + 6) (slots + 300) 1359 [some (.ref (1000000 + 5)), some (.ref 0), some (.ref 55), some (.int (nI i))] [] (K', I', J', R')) : v_S G l 4 room_1 Q p e s m args below meth c cells slots 766 [some (.ref (1000000 + 5)), some (.ref 0), some (.ref 55), some (.int (nI i))] [] (K, I, J, R) := by
  refine ll_aload_n C (pc := 766) dL_law_766 rfl rfl ?_
  refine ll_arg C (pc := 767) (k := 1) hX hbl hbA hL (by omega) (by decide) rfl rfl dL_law_767 dL_law_768 dL_law_769 dL_law_770 dL_law_771 ?_
  refine ll_arg C (pc := 772) (k := 2) hX hbl hbA hL (by omega) (by decide) rfl rfl dL_law_772 dL_law_773 dL_law_774 dL_law_775 dL_law_776 ?_
  refine ll_ci C (pc := 777) (v_rV (jC_next G l (nn := xs (i + 1)) (ww := xs (i + 2)) h hK) rfl kV_L_98 (v_rcO (li_0 h.1) rfl (by decide)) ⟨Nat.le_of_ble_eq_true rfl, Nat.le_of_ble_eq_true rfl⟩ ⟨Nat.le_trans (Nat.add_le_add_right hc _) (Nat.le_of_ble_eq_true rfl), Nat.le_trans (Nat.add_le_add_right hs _) (Nat.le_of_ble_eq_true rfl)⟩ dL_law_777 (Nat.le_of_ble_eq_true rfl)) (fun x0 M0 h0 => ?_)
  obtain ⟨rfl, K1, I1, J1, R1, rfl, hH, hK1⟩ := h0
  refine ll_aload_n C (pc := 780) dL_law_780 rfl rfl ?_
  refine ll_arg C (pc := 781) (k := 1) hX hbl hbA hL (by omega) (by decide) rfl rfl dL_law_781 dL_law_782 dL_law_783 dL_law_784 dL_law_785 ?_
  refine ll_arg C (pc := 786) (k := 2) hX hbl hbA hL (by omega) (by decide) rfl rfl dL_law_786 dL_law_787 dL_law_788 dL_law_789 dL_law_790 ?_
  refine ll_ci C (pc := 791) (v_rV (jM_next G l (nn := xs (i + 1)) (ww := xs (i + 2)) hH) rfl kV_L_101 (v_rcO (li_55 hH.1) rfl (by decide)) ⟨Nat.le_of_ble_eq_true rfl, Nat.le_of_ble_eq_true rfl⟩ ⟨Nat.le_trans (Nat.add_le_add_right (Nat.add_le_add_right hc _) _) (Nat.le_of_ble_eq_true rfl), Nat.le_trans (Nat.add_le_add_right (Nat.add_le_add_right hs _) _) (Nat.le_of_ble_eq_true rfl)⟩ dL_law_791 (Nat.le_of_ble_eq_true rfl)) (fun x1 M1 h1 => ?_)
  obtain ⟨rfl, I2, J2, rfl, hJ⟩ := h1
  refine ll_icmp_eq C (pc := 794) (tgt := 1359) dL_law_794 (by decide) (fun _ => ?_) (fun q => absurd rfl q)
  exact ll_wide (by rw [Nat.add_assoc]; exact Nat.add_le_add_left (Nat.le_of_ble_eq_true rfl) _) (by rw [Nat.add_assoc]; exact Nat.add_le_add_left (Nat.le_of_ble_eq_true rfl) _) (kk _ _ _ _ _ hJ hK1)
set_option maxRecDepth 20000 in
theorem L_odds {G : v_G} {l : Launch} {nm : String} {rt : Option FieldType} {Q : State → Prop} {p : Program} {e : Env} {s : State} {m : MethodId} {args : Array Value} {below : List Frame} {meth : Method} {c : Code} {L i : Nat} {xs : Nat → Int32} (C : v_C G l ⟨RL, nm, ""⟩ cL_law 4 rt p s m args meth c) (hX : va_X (G.2.2.2 5) L xs s s.heap) (hbl : G.2.2.2 5 < s.heap.size) (hbA : ¬ v_A G (G.2.2.2 5)) (hL : L ≤ 3072) (hi : i + 6 ≤ L) {K : Nat × v_TY} {I : Nat → Nat → Int32} {J : Nat → Nat → Int64} {R : Nat → Nat → Option Nat} {g : ZS} {cells slots : Nat} (h : ZJ K I J R g) (hK : K.1 < 700000) (hc : cells ≤ 600000) (hs : slots ≤ 7000000)
    (kk : ∀ K' I' J' R' g', ZJ K' I' J' R' g' → K'.1 ≤ K.1 + 6 → v_S G l 4 room_1 Q p e s m args below meth c (cells + 6) (slots + 300) 1359 [some (.ref (1000000 + 5)), some (.ref 0), some (.ref 55), some (.int (nI i))] [] (K', I', J', R')) : v_S G l 4 room_1 Q p e s m args below meth c cells slots 799 [some (.ref (1000000 + 5)), some (.ref 0), some (.ref 55), some (.int (nI i))] [] (K, I, J, R) := by
  refine ll_aload_n C (pc := 799) dL_law_799 rfl rfl ?_
  refine ll_arg C (pc := 800) (k := 1) hX hbl hbA hL (by omega) (by decide) rfl rfl dL_law_800 dL_law_801 dL_law_802 dL_law_803 dL_law_804 ?_
  refine ll_cl C (pc := 805) (v_rV (jC_odds G l (ww := xs (i + 1)) h hK) rfl kV_L_102 (v_rcO (li_0 h.1) rfl (by decide)) ⟨Nat.le_of_ble_eq_true rfl, Nat.le_of_ble_eq_true rfl⟩ ⟨Nat.le_trans (Nat.add_le_add_right hc _) (Nat.le_of_ble_eq_true rfl), Nat.le_trans (Nat.add_le_add_right hs _) (Nat.le_of_ble_eq_true rfl)⟩ dL_law_805 (Nat.le_of_ble_eq_true rfl)) (fun x0 M0 h0 => ?_)
  obtain ⟨rfl, K1, I1, J1, R1, rfl, hH, hK1⟩ := h0
  refine ll_aload_n C (pc := 808) dL_law_808 rfl rfl ?_
  refine ll_arg C (pc := 809) (k := 1) hX hbl hbA hL (by omega) (by decide) rfl rfl dL_law_809 dL_law_810 dL_law_811 dL_law_812 dL_law_813 ?_
  refine ll_cl C (pc := 814) (v_rV (jM_odds G l (ww := xs (i + 1)) hH) rfl kV_L_106 (v_rcO (li_55 hH.1) rfl (by decide)) ⟨Nat.le_of_ble_eq_true rfl, Nat.le_of_ble_eq_true rfl⟩ ⟨Nat.le_trans (Nat.add_le_add_right (Nat.add_le_add_right hc _) _) (Nat.le_of_ble_eq_true rfl), Nat.le_trans (Nat.add_le_add_right (Nat.add_le_add_right hs _) _) (Nat.le_of_ble_eq_true rfl)⟩ dL_law_814 (Nat.le_of_ble_eq_true rfl)) (fun x1 M1 h1 => ?_)
  obtain ⟨rfl, I2, J2, rfl, hJ⟩ := h1
  refine ll_lcmp C (pc := 817) dL_law_817 ?_
  refine ll_if_eq C (pc := 818) (tgt := 1359) dL_law_818 (by decide) (fun _ => ?_) (fun q => absurd (x_cmp0.mpr rfl) q)
  exact ll_wide (by rw [Nat.add_assoc]; exact Nat.add_le_add_left (Nat.le_of_ble_eq_true rfl) _) (by rw [Nat.add_assoc]; exact Nat.add_le_add_left (Nat.le_of_ble_eq_true rfl) _) (kk _ _ _ _ _ hJ hK1)
set_option maxRecDepth 20000 in
theorem L_mean {G : v_G} {l : Launch} {nm : String} {rt : Option FieldType} {Q : State → Prop} {p : Program} {e : Env} {s : State} {m : MethodId} {args : Array Value} {below : List Frame} {meth : Method} {c : Code} {L i : Nat} {xs : Nat → Int32} (C : v_C G l ⟨RL, nm, ""⟩ cL_law 4 rt p s m args meth c) (hX : va_X (G.2.2.2 5) L xs s s.heap) (hbl : G.2.2.2 5 < s.heap.size) (hbA : ¬ v_A G (G.2.2.2 5)) (hL : L ≤ 3072) (hi : i + 6 ≤ L) {K : Nat × v_TY} {I : Nat → Nat → Int32} {J : Nat → Nat → Int64} {R : Nat → Nat → Option Nat} {g : ZS} {cells slots : Nat} (h : ZJ K I J R g) (hK : K.1 < 700000) (hc : cells ≤ 600000) (hs : slots ≤ 7000000)
    (kk : ∀ K' I' J' R' g', ZJ K' I' J' R' g' → K'.1 ≤ K.1 + 6 → v_S G l 4 room_1 Q p e s m args below meth c (cells + 6) (slots + 300) 1359 [some (.ref (1000000 + 5)), some (.ref 0), some (.ref 55), some (.int (nI i))] [] (K', I', J', R')) : v_S G l 4 room_1 Q p e s m args below meth c cells slots 823 [some (.ref (1000000 + 5)), some (.ref 0), some (.ref 55), some (.int (nI i))] [] (K, I, J, R) := by
  refine ll_aload_n C (pc := 823) dL_law_823 rfl rfl ?_
  refine ll_arg C (pc := 824) (k := 1) hX hbl hbA hL (by omega) (by decide) rfl rfl dL_law_824 dL_law_825 dL_law_826 dL_law_827 dL_law_828 ?_
  refine ll_cl C (pc := 829) (v_rV (jC_mean G l (ww := xs (i + 1)) h hK) rfl kV_L_107 (v_rcO (li_0 h.1) rfl (by decide)) ⟨Nat.le_of_ble_eq_true rfl, Nat.le_of_ble_eq_true rfl⟩ ⟨Nat.le_trans (Nat.add_le_add_right hc _) (Nat.le_of_ble_eq_true rfl), Nat.le_trans (Nat.add_le_add_right hs _) (Nat.le_of_ble_eq_true rfl)⟩ dL_law_829 (Nat.le_of_ble_eq_true rfl)) (fun x0 M0 h0 => ?_)
  obtain ⟨rfl, K1, I1, J1, R1, rfl, hH, hK1⟩ := h0
  refine ll_aload_n C (pc := 832) dL_law_832 rfl rfl ?_
  refine ll_arg C (pc := 833) (k := 1) hX hbl hbA hL (by omega) (by decide) rfl rfl dL_law_833 dL_law_834 dL_law_835 dL_law_836 dL_law_837 ?_
  refine ll_cl C (pc := 838) (v_rV (jM_mean G l (ww := xs (i + 1)) hH) rfl kV_L_110 (v_rcO (li_55 hH.1) rfl (by decide)) ⟨Nat.le_of_ble_eq_true rfl, Nat.le_of_ble_eq_true rfl⟩ ⟨Nat.le_trans (Nat.add_le_add_right (Nat.add_le_add_right hc _) _) (Nat.le_of_ble_eq_true rfl), Nat.le_trans (Nat.add_le_add_right (Nat.add_le_add_right hs _) _) (Nat.le_of_ble_eq_true rfl)⟩ dL_law_838 (Nat.le_of_ble_eq_true rfl)) (fun x1 M1 h1 => ?_)
  obtain ⟨rfl, I2, J2, rfl, hJ⟩ := h1
  refine ll_lcmp C (pc := 841) dL_law_841 ?_
  refine ll_if_eq C (pc := 842) (tgt := 1359) dL_law_842 (by decide) (fun _ => ?_) (fun q => absurd (x_cmp0.mpr rfl) q)
  exact ll_wide (by rw [Nat.add_assoc]; exact Nat.add_le_add_left (Nat.le_of_ble_eq_true rfl) _) (by rw [Nat.add_assoc]; exact Nat.add_le_add_left (Nat.le_of_ble_eq_true rfl) _) (kk _ _ _ _ _ hJ hK1)
set_option maxRecDepth 20000 in
theorem L_wish {G : v_G} {l : Launch} {nm : String} {rt : Option FieldType} {Q : State → Prop} {p : Program} {e : Env} {s : State} {m : MethodId} {args : Array Value} {below : List Frame} {meth : Method} {c : Code} {L i : Nat} {xs : Nat → Int32} (C : v_C G l ⟨RL, nm, ""⟩ cL_law 4 rt p s m args meth c) (hX : va_X (G.2.2.2 5) L xs s s.heap) (hbl : G.2.2.2 5 < s.heap.size) (hbA : ¬ v_A G (G.2.2.2 5)) (hL : L ≤ 3072) (hi : i + 6 ≤ L) {K : Nat × v_TY} {I : Nat → Nat → Int32} {J : Nat → Nat → Int64} {R : Nat → Nat → Option Nat} {g : ZS} {cells slots : Nat} (h : ZJ K I J R g) (hK : K.1 < 700000) (hc : cells ≤ 600000) (hs : slots ≤ 7000000)
    (kk : ∀ K' I' J' R' g', ZJ K' I' J' R' g' → K'.1 ≤ K.1 + 6 → v_S G l 4 room_1 Q p e s m args below meth c (cells + 6) (slots + 300) 1359 [some (.ref (1000000 + 5)), some (.ref 0), some (.ref 55), some (.int (nI i))] [] (K', I', J', R')) : v_S G l 4 room_1 Q p e s m args below meth c cells slots 847 [some (.ref (1000000 + 5)), some (.ref 0), some (.ref 55), some (.int (nI i))] [] (K, I, J, R) := by
  refine ll_aload_n C (pc := 847) dL_law_847 rfl rfl ?_
  refine ll_arg C (pc := 848) (k := 1) hX hbl hbA hL (by omega) (by decide) rfl rfl dL_law_848 dL_law_849 dL_law_850 dL_law_851 dL_law_852 ?_
  refine ll_arg C (pc := 853) (k := 2) hX hbl hbA hL (by omega) (by decide) rfl rfl dL_law_853 dL_law_854 dL_law_855 dL_law_856 dL_law_857 ?_
  refine ll_bool C (pc := 858) dL_law_858 dL_law_861 dL_law_862 dL_law_865 ?_
  refine ll_ci C (pc := 866) (v_rV (jC_wish G l (pp := xs (i + 1)) (ar := decide (xs (i + 2) ≠ 0)) h hK) rfl kV_L_111 (v_rcO (li_0 h.1) rfl (by decide)) ⟨Nat.le_of_ble_eq_true rfl, Nat.le_of_ble_eq_true rfl⟩ ⟨Nat.le_trans (Nat.add_le_add_right hc _) (Nat.le_of_ble_eq_true rfl), Nat.le_trans (Nat.add_le_add_right hs _) (Nat.le_of_ble_eq_true rfl)⟩ dL_law_866 (Nat.le_of_ble_eq_true rfl)) (fun x0 M0 h0 => ?_)
  obtain ⟨rfl, K1, I1, J1, R1, rfl, hH, hK1⟩ := h0
  refine ll_aload_n C (pc := 869) dL_law_869 rfl rfl ?_
  refine ll_arg C (pc := 870) (k := 1) hX hbl hbA hL (by omega) (by decide) rfl rfl dL_law_870 dL_law_871 dL_law_872 dL_law_873 dL_law_874 ?_
  refine ll_arg C (pc := 875) (k := 2) hX hbl hbA hL (by omega) (by decide) rfl rfl dL_law_875 dL_law_876 dL_law_877 dL_law_878 dL_law_879 ?_
  refine ll_bool C (pc := 880) dL_law_880 dL_law_883 dL_law_884 dL_law_887 ?_
  refine ll_ci C (pc := 888) (v_rV (jM_wish G l (pp := xs (i + 1)) (ar := decide (xs (i + 2) ≠ 0)) hH) rfl kV_L_115 (v_rcO (li_55 hH.1) rfl (by decide)) ⟨Nat.le_of_ble_eq_true rfl, Nat.le_of_ble_eq_true rfl⟩ ⟨Nat.le_trans (Nat.add_le_add_right (Nat.add_le_add_right hc _) _) (Nat.le_of_ble_eq_true rfl), Nat.le_trans (Nat.add_le_add_right (Nat.add_le_add_right hs _) _) (Nat.le_of_ble_eq_true rfl)⟩ dL_law_888 (Nat.le_of_ble_eq_true rfl)) (fun x1 M1 h1 => ?_)
  obtain ⟨rfl, I2, J2, rfl, hJ⟩ := h1
  refine ll_icmp_eq C (pc := 891) (tgt := 1359) dL_law_891 (by decide) (fun _ => ?_) (fun q => absurd rfl q)
  exact ll_wide (by rw [Nat.add_assoc]; exact Nat.add_le_add_left (Nat.le_of_ble_eq_true rfl) _) (by rw [Nat.add_assoc]; exact Nat.add_le_add_left (Nat.le_of_ble_eq_true rfl) _) (kk _ _ _ _ _ hJ hK1)
set_option maxRecDepth 20000 in
theorem L_kept {G : v_G} {l : Launch} {nm : String} {rt : Option FieldType} {Q : State → Prop} {p : Program} {e : Env} {s : State} {m : MethodId} {args : Array Value} {below : List Frame} {meth : Method} {c : Code} {L i : Nat} {xs : Nat → Int32} (C : v_C G l ⟨RL, nm, ""⟩ cL_law 4 rt p s m args meth c) (hX : va_X (G.2.2.2 5) L xs s s.heap) (hbl : G.2.2.2 5 < s.heap.size) (hbA : ¬ v_A G (G.2.2.2 5)) (hL : L ≤ 3072) (hi : i + 6 ≤ L) {K : Nat × v_TY} {I : Nat → Nat → Int32} {J : Nat → Nat → Int64} {R : Nat → Nat → Option Nat} {g : ZS} {cells slots : Nat} (h : ZJ K I J R g) (hK : K.1 < 700000) (hc : cells ≤ 600000) (hs : slots ≤ 7000000)
    (kk : ∀ K' I' J' R' g', ZJ K' I' J' R' g' → K'.1 ≤ K.1 + 6 → v_S G l 4 room_1 Q p e s m args below meth c (cells + 6) (slots + 300) 1359 [some (.ref (1000000 + 5)), some (.ref 0), some (.ref 55), some (.int (nI i))] [] (K', I', J', R')) : v_S G l 4 room_1 Q p e s m args below meth c cells slots 896 [some (.ref (1000000 + 5)), some (.ref 0), some (.ref 55), some (.int (nI i))] [] (K, I, J, R) := by
  refine ll_aload_n C (pc := 896) dL_law_896 rfl rfl ?_
  refine ll_arg C (pc := 897) (k := 1) hX hbl hbA hL (by omega) (by decide) rfl rfl dL_law_897 dL_law_898 dL_law_899 dL_law_900 dL_law_901 ?_
  refine ll_ci C (pc := 902) (v_rV (jC_kept G l (ww := xs (i + 1)) h hK) rfl kV_L_116 (v_rcO (li_0 h.1) rfl (by decide)) ⟨Nat.le_of_ble_eq_true rfl, Nat.le_of_ble_eq_true rfl⟩ ⟨Nat.le_trans (Nat.add_le_add_right hc _) (Nat.le_of_ble_eq_true rfl), Nat.le_trans (Nat.add_le_add_right hs _) (Nat.le_of_ble_eq_true rfl)⟩ dL_law_902 (Nat.le_of_ble_eq_true rfl)) (fun x0 M0 h0 => ?_)
  obtain ⟨rfl, K1, I1, J1, R1, rfl, hH, hK1⟩ := h0
  refine ll_aload_n C (pc := 905) dL_law_905 rfl rfl ?_
  refine ll_arg C (pc := 906) (k := 1) hX hbl hbA hL (by omega) (by decide) rfl rfl dL_law_906 dL_law_907 dL_law_908 dL_law_909 dL_law_910 ?_
  refine ll_ci C (pc := 911) (v_rV (jM_kept G l (ww := xs (i + 1)) hH) rfl kV_L_119 (v_rcO (li_55 hH.1) rfl (by decide)) ⟨Nat.le_of_ble_eq_true rfl, Nat.le_of_ble_eq_true rfl⟩ ⟨Nat.le_trans (Nat.add_le_add_right (Nat.add_le_add_right hc _) _) (Nat.le_of_ble_eq_true rfl), Nat.le_trans (Nat.add_le_add_right (Nat.add_le_add_right hs _) _) (Nat.le_of_ble_eq_true rfl)⟩ dL_law_911 (Nat.le_of_ble_eq_true rfl)) (fun x1 M1 h1 => ?_)
  obtain ⟨rfl, I2, J2, rfl, hJ⟩ := h1
  refine ll_icmp_eq C (pc := 914) (tgt := 1359) dL_law_914 (by decide) (fun _ => ?_) (fun q => absurd rfl q)
  exact ll_wide (by rw [Nat.add_assoc]; exact Nat.add_le_add_left (Nat.le_of_ble_eq_true rfl) _) (by rw [Nat.add_assoc]; exact Nat.add_le_add_left (Nat.le_of_ble_eq_true rfl) _) (kk _ _ _ _ _ hJ hK1)
set_option maxRecDepth 20000 in
theorem L_book {G : v_G} {l : Launch} {nm : String} {rt : Option FieldType} {Q : State → Prop} {p : Program} {e : Env} {s : State} {m : MethodId} {args : Array Value} {below : List Frame} {meth : Method} {c : Code} {L i : Nat} {xs : Nat → Int32} (C : v_C G l ⟨RL, nm, ""⟩ cL_law 4 rt p s m args meth c) (hX : va_X (G.2.2.2 5) L xs s s.heap) (hbl : G.2.2.2 5 < s.heap.size) (hbA : ¬ v_A G (G.2.2.2 5)) (hL : L ≤ 3072) (hi : i + 6 ≤ L) {K : Nat × v_TY} {I : Nat → Nat → Int32} {J : Nat → Nat → Int64} {R : Nat → Nat → Option Nat} {g : ZS} {cells slots : Nat} (h : ZJ K I J R g) (hK : K.1 < 700000) (hc : cells ≤ 600000) (hs : slots ≤ 7000000)
    (kk : ∀ K' I' J' R' g', ZJ K' I' J' R' g' → K'.1 ≤ K.1 + 6 → v_S G l 4 room_1 Q p e s m args below meth c (cells + 6) (slots + 300) 1359 [some (.ref (1000000 + 5)), some (.ref 0), some (.ref 55), some (.int (nI i))] [] (K', I', J', R')) : v_S G l 4 room_1 Q p e s m args below meth c cells slots 919 [some (.ref (1000000 + 5)), some (.ref 0), some (.ref 55), some (.int (nI i))] [] (K, I, J, R) := by
  refine ll_aload_n C (pc := 919) dL_law_919 rfl rfl ?_
  refine ll_arg C (pc := 920) (k := 1) hX hbl hbA hL (by omega) (by decide) rfl rfl dL_law_920 dL_law_921 dL_law_922 dL_law_923 dL_law_924 ?_
  refine ll_arg C (pc := 925) (k := 2) hX hbl hbA hL (by omega) (by decide) rfl rfl dL_law_925 dL_law_926 dL_law_927 dL_law_928 dL_law_929 ?_
  refine ll_ci C (pc := 930) (v_rV (jC_book G l (pp := xs (i + 1)) (dd := xs (i + 2)) h hK) rfl kV_L_120 (v_rcO (li_0 h.1) rfl (by decide)) ⟨Nat.le_of_ble_eq_true rfl, Nat.le_of_ble_eq_true rfl⟩ ⟨Nat.le_trans (Nat.add_le_add_right hc _) (Nat.le_of_ble_eq_true rfl), Nat.le_trans (Nat.add_le_add_right hs _) (Nat.le_of_ble_eq_true rfl)⟩ dL_law_930 (Nat.le_of_ble_eq_true rfl)) (fun x0 M0 h0 => ?_)
  obtain ⟨rfl, K1, I1, J1, R1, rfl, hH, hK1⟩ := h0
  refine ll_aload_n C (pc := 933) dL_law_933 rfl rfl ?_
  refine ll_arg C (pc := 934) (k := 1) hX hbl hbA hL (by omega) (by decide) rfl rfl dL_law_934 dL_law_935 dL_law_936 dL_law_937 dL_law_938 ?_
  refine ll_arg C (pc := 939) (k := 2) hX hbl hbA hL (by omega) (by decide) rfl rfl dL_law_939 dL_law_940 dL_law_941 dL_law_942 dL_law_943 ?_
  refine ll_ci C (pc := 944) (v_rV (jM_book G l (pp := xs (i + 1)) (dd := xs (i + 2)) hH) rfl kV_L_123 (v_rcO (li_55 hH.1) rfl (by decide)) ⟨Nat.le_of_ble_eq_true rfl, Nat.le_of_ble_eq_true rfl⟩ ⟨Nat.le_trans (Nat.add_le_add_right (Nat.add_le_add_right hc _) _) (Nat.le_of_ble_eq_true rfl), Nat.le_trans (Nat.add_le_add_right (Nat.add_le_add_right hs _) _) (Nat.le_of_ble_eq_true rfl)⟩ dL_law_944 (Nat.le_of_ble_eq_true rfl)) (fun x1 M1 h1 => ?_)
  obtain ⟨rfl, I2, J2, rfl, hJ⟩ := h1
  refine ll_icmp_eq C (pc := 947) (tgt := 1359) dL_law_947 (by decide) (fun _ => ?_) (fun q => absurd rfl q)
  exact ll_wide (by rw [Nat.add_assoc]; exact Nat.add_le_add_left (Nat.le_of_ble_eq_true rfl) _) (by rw [Nat.add_assoc]; exact Nat.add_le_add_left (Nat.le_of_ble_eq_true rfl) _) (kk _ _ _ _ _ hJ hK1)
set_option maxRecDepth 20000 in
theorem L_looked {G : v_G} {l : Launch} {nm : String} {rt : Option FieldType} {Q : State → Prop} {p : Program} {e : Env} {s : State} {m : MethodId} {args : Array Value} {below : List Frame} {meth : Method} {c : Code} {L i : Nat} {xs : Nat → Int32} (C : v_C G l ⟨RL, nm, ""⟩ cL_law 4 rt p s m args meth c) (hX : va_X (G.2.2.2 5) L xs s s.heap) (hbl : G.2.2.2 5 < s.heap.size) (hbA : ¬ v_A G (G.2.2.2 5)) (hL : L ≤ 3072) (hi : i + 6 ≤ L) {K : Nat × v_TY} {I : Nat → Nat → Int32} {J : Nat → Nat → Int64} {R : Nat → Nat → Option Nat} {g : ZS} {cells slots : Nat} (h : ZJ K I J R g) (hK : K.1 < 700000) (hc : cells ≤ 600000) (hs : slots ≤ 7000000)
    (kk : ∀ K' I' J' R' g', ZJ K' I' J' R' g' → K'.1 ≤ K.1 + 6 → v_S G l 4 room_1 Q p e s m args below meth c (cells + 6) (slots + 300) 1359 [some (.ref (1000000 + 5)), some (.ref 0), some (.ref 55), some (.int (nI i))] [] (K', I', J', R')) : v_S G l 4 room_1 Q p e s m args below meth c cells slots 952 [some (.ref (1000000 + 5)), some (.ref 0), some (.ref 55), some (.int (nI i))] [] (K, I, J, R) := by
  refine ll_aload_n C (pc := 952) dL_law_952 rfl rfl ?_
  refine ll_ci C (pc := 953) (v_rV (jC_looked G l h hK) rfl kV_L_124 (v_rcO (li_0 h.1) rfl (by decide)) ⟨Nat.le_of_ble_eq_true rfl, Nat.le_of_ble_eq_true rfl⟩ ⟨Nat.le_trans (Nat.add_le_add_right hc _) (Nat.le_of_ble_eq_true rfl), Nat.le_trans (Nat.add_le_add_right hs _) (Nat.le_of_ble_eq_true rfl)⟩ dL_law_953 (Nat.le_of_ble_eq_true rfl)) (fun x0 M0 h0 => ?_)
  obtain ⟨rfl, K1, I1, J1, R1, rfl, hH, hK1⟩ := h0
  refine ll_aload_n C (pc := 956) dL_law_956 rfl rfl ?_
  refine ll_ci C (pc := 957) (v_rV (jM_looked G l hH) rfl kV_L_127 (v_rcO (li_55 hH.1) rfl (by decide)) ⟨Nat.le_of_ble_eq_true rfl, Nat.le_of_ble_eq_true rfl⟩ ⟨Nat.le_trans (Nat.add_le_add_right (Nat.add_le_add_right hc _) _) (Nat.le_of_ble_eq_true rfl), Nat.le_trans (Nat.add_le_add_right (Nat.add_le_add_right hs _) _) (Nat.le_of_ble_eq_true rfl)⟩ dL_law_957 (Nat.le_of_ble_eq_true rfl)) (fun x1 M1 h1 => ?_)
  obtain ⟨rfl, I2, J2, rfl, hJ⟩ := h1
  refine ll_icmp_eq C (pc := 960) (tgt := 1359) dL_law_960 (by decide) (fun _ => ?_) (fun q => absurd rfl q)
  exact ll_wide (by rw [Nat.add_assoc]; exact Nat.add_le_add_left (Nat.le_of_ble_eq_true rfl) _) (by rw [Nat.add_assoc]; exact Nat.add_le_add_left (Nat.le_of_ble_eq_true rfl) _) (kk _ _ _ _ _ hJ hK1)
set_option maxRecDepth 20000 in
theorem L_judge {G : v_G} {l : Launch} {nm : String} {rt : Option FieldType} {Q : State → Prop} {p : Program} {e : Env} {s : State} {m : MethodId} {args : Array Value} {below : List Frame} {meth : Method} {c : Code} {L i : Nat} {xs : Nat → Int32} (C : v_C G l ⟨RL, nm, ""⟩ cL_law 4 rt p s m args meth c) (hX : va_X (G.2.2.2 5) L xs s s.heap) (hbl : G.2.2.2 5 < s.heap.size) (hbA : ¬ v_A G (G.2.2.2 5)) (hL : L ≤ 3072) (hi : i + 6 ≤ L) {K : Nat × v_TY} {I : Nat → Nat → Int32} {J : Nat → Nat → Int64} {R : Nat → Nat → Option Nat} {g : ZS} {cells slots : Nat} (h : ZJ K I J R g) (hK : K.1 < 700000) (hc : cells ≤ 600000) (hs : slots ≤ 7000000)
    (kk : ∀ K' I' J' R' g', ZJ K' I' J' R' g' → K'.1 ≤ K.1 + 6 → v_S G l 4 room_1 Q p e s m args below meth c (cells + 6) (slots + 300) 1359 [some (.ref (1000000 + 5)), some (.ref 0), some (.ref 55), some (.int (nI i))] [] (K', I', J', R')) : v_S G l 4 room_1 Q p e s m args below meth c cells slots 965 [some (.ref (1000000 + 5)), some (.ref 0), some (.ref 55), some (.int (nI i))] [] (K, I, J, R) := by
  refine ll_aload_n C (pc := 965) dL_law_965 rfl rfl ?_
  refine ll_arg C (pc := 966) (k := 1) hX hbl hbA hL (by omega) (by decide) rfl rfl dL_law_966 dL_law_967 dL_law_968 dL_law_969 dL_law_970 ?_
  refine ll_arg C (pc := 971) (k := 2) hX hbl hbA hL (by omega) (by decide) rfl rfl dL_law_971 dL_law_972 dL_law_973 dL_law_974 dL_law_975 ?_
  refine ll_ci C (pc := 976) (v_rV (jC_judge G l (tt := xs (i + 1)) (ii := xs (i + 2)) h hK) rfl kV_L_128 (v_rcO (li_0 h.1) rfl (by decide)) ⟨Nat.le_of_ble_eq_true rfl, Nat.le_of_ble_eq_true rfl⟩ ⟨Nat.le_trans (Nat.add_le_add_right hc _) (Nat.le_of_ble_eq_true rfl), Nat.le_trans (Nat.add_le_add_right hs _) (Nat.le_of_ble_eq_true rfl)⟩ dL_law_976 (Nat.le_of_ble_eq_true rfl)) (fun x0 M0 h0 => ?_)
  obtain ⟨rfl, K1, I1, J1, R1, rfl, hH, hK1⟩ := h0
  refine ll_aload_n C (pc := 979) dL_law_979 rfl rfl ?_
  refine ll_arg C (pc := 980) (k := 1) hX hbl hbA hL (by omega) (by decide) rfl rfl dL_law_980 dL_law_981 dL_law_982 dL_law_983 dL_law_984 ?_
  refine ll_arg C (pc := 985) (k := 2) hX hbl hbA hL (by omega) (by decide) rfl rfl dL_law_985 dL_law_986 dL_law_987 dL_law_988 dL_law_989 ?_
  refine ll_ci C (pc := 990) (v_rV (jM_judge G l (tt := xs (i + 1)) (ii := xs (i + 2)) hH) rfl kV_L_131 (v_rcO (li_55 hH.1) rfl (by decide)) ⟨Nat.le_of_ble_eq_true rfl, Nat.le_of_ble_eq_true rfl⟩ ⟨Nat.le_trans (Nat.add_le_add_right (Nat.add_le_add_right hc _) _) (Nat.le_of_ble_eq_true rfl), Nat.le_trans (Nat.add_le_add_right (Nat.add_le_add_right hs _) _) (Nat.le_of_ble_eq_true rfl)⟩ dL_law_990 (Nat.le_of_ble_eq_true rfl)) (fun x1 M1 h1 => ?_)
  obtain ⟨rfl, I2, J2, rfl, hJ⟩ := h1
  refine ll_icmp_eq C (pc := 993) (tgt := 1359) dL_law_993 (by decide) (fun _ => ?_) (fun q => absurd rfl q)
  exact ll_wide (by rw [Nat.add_assoc]; exact Nat.add_le_add_left (Nat.le_of_ble_eq_true rfl) _) (by rw [Nat.add_assoc]; exact Nat.add_le_add_left (Nat.le_of_ble_eq_true rfl) _) (kk _ _ _ _ _ hJ hK1)
set_option maxRecDepth 20000 in
theorem L_image {G : v_G} {l : Launch} {nm : String} {rt : Option FieldType} {Q : State → Prop} {p : Program} {e : Env} {s : State} {m : MethodId} {args : Array Value} {below : List Frame} {meth : Method} {c : Code} {L i : Nat} {xs : Nat → Int32} (C : v_C G l ⟨RL, nm, ""⟩ cL_law 4 rt p s m args meth c) (hX : va_X (G.2.2.2 5) L xs s s.heap) (hbl : G.2.2.2 5 < s.heap.size) (hbA : ¬ v_A G (G.2.2.2 5)) (hL : L ≤ 3072) (hi : i + 6 ≤ L) {K : Nat × v_TY} {I : Nat → Nat → Int32} {J : Nat → Nat → Int64} {R : Nat → Nat → Option Nat} {g : ZS} {cells slots : Nat} (h : ZJ K I J R g) (hK : K.1 < 700000) (hc : cells ≤ 600000) (hs : slots ≤ 7000000)
    (kk : ∀ K' I' J' R' g', ZJ K' I' J' R' g' → K'.1 ≤ K.1 + 6 → v_S G l 4 room_1 Q p e s m args below meth c (cells + 6) (slots + 300) 1359 [some (.ref (1000000 + 5)), some (.ref 0), some (.ref 55), some (.int (nI i))] [] (K', I', J', R')) : v_S G l 4 room_1 Q p e s m args below meth c cells slots 998 [some (.ref (1000000 + 5)), some (.ref 0), some (.ref 55), some (.int (nI i))] [] (K, I, J, R) := by
  refine ll_aload_n C (pc := 998) dL_law_998 rfl rfl ?_
  refine ll_ci C (pc := 999) (v_rV (jC_image G l h hK) rfl kV_L_132 (v_rcO (li_0 h.1) rfl (by decide)) ⟨Nat.le_of_ble_eq_true rfl, Nat.le_of_ble_eq_true rfl⟩ ⟨Nat.le_trans (Nat.add_le_add_right hc _) (Nat.le_of_ble_eq_true rfl), Nat.le_trans (Nat.add_le_add_right hs _) (Nat.le_of_ble_eq_true rfl)⟩ dL_law_999 (Nat.le_of_ble_eq_true rfl)) (fun x0 M0 h0 => ?_)
  obtain ⟨rfl, K1, I1, J1, R1, rfl, hH, hK1⟩ := h0
  refine ll_aload_n C (pc := 1002) dL_law_1002 rfl rfl ?_
  refine ll_ci C (pc := 1003) (v_rV (jM_image G l hH) rfl kV_L_135 (v_rcO (li_55 hH.1) rfl (by decide)) ⟨Nat.le_of_ble_eq_true rfl, Nat.le_of_ble_eq_true rfl⟩ ⟨Nat.le_trans (Nat.add_le_add_right (Nat.add_le_add_right hc _) _) (Nat.le_of_ble_eq_true rfl), Nat.le_trans (Nat.add_le_add_right (Nat.add_le_add_right hs _) _) (Nat.le_of_ble_eq_true rfl)⟩ dL_law_1003 (Nat.le_of_ble_eq_true rfl)) (fun x1 M1 h1 => ?_)
  obtain ⟨rfl, I2, J2, rfl, hJ⟩ := h1
  refine ll_icmp_eq C (pc := 1006) (tgt := 1359) dL_law_1006 (by decide) (fun _ => ?_) (fun q => absurd rfl q)
  exact ll_wide (by rw [Nat.add_assoc]; exact Nat.add_le_add_left (Nat.le_of_ble_eq_true rfl) _) (by rw [Nat.add_assoc]; exact Nat.add_le_add_left (Nat.le_of_ble_eq_true rfl) _) (kk _ _ _ _ _ hJ hK1)
set_option maxRecDepth 20000 in
theorem L_undo {G : v_G} {l : Launch} {nm : String} {rt : Option FieldType} {Q : State → Prop} {p : Program} {e : Env} {s : State} {m : MethodId} {args : Array Value} {below : List Frame} {meth : Method} {c : Code} {L i : Nat} {xs : Nat → Int32} (C : v_C G l ⟨RL, nm, ""⟩ cL_law 4 rt p s m args meth c) (hX : va_X (G.2.2.2 5) L xs s s.heap) (hbl : G.2.2.2 5 < s.heap.size) (hbA : ¬ v_A G (G.2.2.2 5)) (hL : L ≤ 3072) (hi : i + 6 ≤ L) {K : Nat × v_TY} {I : Nat → Nat → Int32} {J : Nat → Nat → Int64} {R : Nat → Nat → Option Nat} {g : ZS} {cells slots : Nat} (h : ZJ K I J R g) (hK : K.1 < 700000) (hc : cells ≤ 600000) (hs : slots ≤ 7000000)
    (kk : ∀ K' I' J' R' g', ZJ K' I' J' R' g' → K'.1 ≤ K.1 + 6 → v_S G l 4 room_1 Q p e s m args below meth c (cells + 6) (slots + 300) 1359 [some (.ref (1000000 + 5)), some (.ref 0), some (.ref 55), some (.int (nI i))] [] (K', I', J', R')) : v_S G l 4 room_1 Q p e s m args below meth c cells slots 1011 [some (.ref (1000000 + 5)), some (.ref 0), some (.ref 55), some (.int (nI i))] [] (K, I, J, R) := by
  refine ll_aload_n C (pc := 1011) dL_law_1011 rfl rfl ?_
  refine ll_ci C (pc := 1012) (v_rV (jC_undo G l h hK) rfl kV_L_136 (v_rcO (li_0 h.1) rfl (by decide)) ⟨Nat.le_of_ble_eq_true rfl, Nat.le_of_ble_eq_true rfl⟩ ⟨Nat.le_trans (Nat.add_le_add_right hc _) (Nat.le_of_ble_eq_true rfl), Nat.le_trans (Nat.add_le_add_right hs _) (Nat.le_of_ble_eq_true rfl)⟩ dL_law_1012 (Nat.le_of_ble_eq_true rfl)) (fun x0 M0 h0 => ?_)
  obtain ⟨rfl, K1, I1, J1, R1, rfl, hH, hK1⟩ := h0
  refine ll_aload_n C (pc := 1015) dL_law_1015 rfl rfl ?_
  refine ll_ci C (pc := 1016) (v_rV (jM_undo G l hH) rfl kV_L_139 (v_rcO (li_55 hH.1) rfl (by decide)) ⟨Nat.le_of_ble_eq_true rfl, Nat.le_of_ble_eq_true rfl⟩ ⟨Nat.le_trans (Nat.add_le_add_right (Nat.add_le_add_right hc _) _) (Nat.le_of_ble_eq_true rfl), Nat.le_trans (Nat.add_le_add_right (Nat.add_le_add_right hs _) _) (Nat.le_of_ble_eq_true rfl)⟩ dL_law_1016 (Nat.le_of_ble_eq_true rfl)) (fun x1 M1 h1 => ?_)
  obtain ⟨rfl, I2, J2, rfl, hJ⟩ := h1
  refine ll_icmp_eq C (pc := 1019) (tgt := 1359) dL_law_1019 (by decide) (fun _ => ?_) (fun q => absurd rfl q)
  exact ll_wide (by rw [Nat.add_assoc]; exact Nat.add_le_add_left (Nat.le_of_ble_eq_true rfl) _) (by rw [Nat.add_assoc]; exact Nat.add_le_add_left (Nat.le_of_ble_eq_true rfl) _) (kk _ _ _ _ _ hJ hK1)
set_option maxRecDepth 20000 in
theorem L_act {G : v_G} {l : Launch} {nm : String} {rt : Option FieldType} {Q : State → Prop} {p : Program} {e : Env} {s : State} {m : MethodId} {args : Array Value} {below : List Frame} {meth : Method} {c : Code} {L i : Nat} {xs : Nat → Int32} (C : v_C G l ⟨RL, nm, ""⟩ cL_law 4 rt p s m args meth c) (hX : va_X (G.2.2.2 5) L xs s s.heap) (hbl : G.2.2.2 5 < s.heap.size) (hbA : ¬ v_A G (G.2.2.2 5)) (hL : L ≤ 3072) (hi : i + 6 ≤ L) {K : Nat × v_TY} {I : Nat → Nat → Int32} {J : Nat → Nat → Int64} {R : Nat → Nat → Option Nat} {g : ZS} {cells slots : Nat} (h : ZJ K I J R g) (hK : K.1 < 700000) (hc : cells ≤ 600000) (hs : slots ≤ 7000000)
    (kk : ∀ K' I' J' R' g', ZJ K' I' J' R' g' → K'.1 ≤ K.1 + 6 → v_S G l 4 room_1 Q p e s m args below meth c (cells + 6) (slots + 300) 1359 [some (.ref (1000000 + 5)), some (.ref 0), some (.ref 55), some (.int (nI i))] [] (K', I', J', R')) : v_S G l 4 room_1 Q p e s m args below meth c cells slots 1024 [some (.ref (1000000 + 5)), some (.ref 0), some (.ref 55), some (.int (nI i))] [] (K, I, J, R) := by
  refine ll_aload_n C (pc := 1024) dL_law_1024 rfl rfl ?_
  refine ll_arg C (pc := 1025) (k := 1) hX hbl hbA hL (by omega) (by decide) rfl rfl dL_law_1025 dL_law_1026 dL_law_1027 dL_law_1028 dL_law_1029 ?_
  refine ll_arg C (pc := 1030) (k := 2) hX hbl hbA hL (by omega) (by decide) rfl rfl dL_law_1030 dL_law_1031 dL_law_1032 dL_law_1033 dL_law_1034 ?_
  refine ll_arg C (pc := 1035) (k := 3) hX hbl hbA hL (by omega) (by decide) rfl rfl dL_law_1035 dL_law_1036 dL_law_1037 dL_law_1038 dL_law_1039 ?_
  refine ll_ci C (pc := 1040) (v_rV (jC_act G l (ii := xs (i + 1)) (aa := xs (i + 2)) (z := xs (i + 3)) h hK) rfl kV_L_140 (v_rcO (li_0 h.1) rfl (by decide)) ⟨Nat.le_of_ble_eq_true rfl, Nat.le_of_ble_eq_true rfl⟩ ⟨Nat.le_trans (Nat.add_le_add_right hc _) (Nat.le_of_ble_eq_true rfl), Nat.le_trans (Nat.add_le_add_right hs _) (Nat.le_of_ble_eq_true rfl)⟩ dL_law_1040 (Nat.le_of_ble_eq_true rfl)) (fun x0 M0 h0 => ?_)
  obtain ⟨rfl, K1, I1, J1, R1, rfl, hH, hK1⟩ := h0
  refine ll_aload_n C (pc := 1043) dL_law_1043 rfl rfl ?_
  refine ll_arg C (pc := 1044) (k := 1) hX hbl hbA hL (by omega) (by decide) rfl rfl dL_law_1044 dL_law_1045 dL_law_1046 dL_law_1047 dL_law_1048 ?_
  refine ll_arg C (pc := 1049) (k := 2) hX hbl hbA hL (by omega) (by decide) rfl rfl dL_law_1049 dL_law_1050 dL_law_1051 dL_law_1052 dL_law_1053 ?_
  refine ll_arg C (pc := 1054) (k := 3) hX hbl hbA hL (by omega) (by decide) rfl rfl dL_law_1054 dL_law_1055 dL_law_1056 dL_law_1057 dL_law_1058 ?_
  refine ll_ci C (pc := 1059) (v_rV (jM_act G l (ii := xs (i + 1)) (aa := xs (i + 2)) (z := xs (i + 3)) hH) rfl kV_L_143 (v_rcO (li_55 hH.1) rfl (by decide)) ⟨Nat.le_of_ble_eq_true rfl, Nat.le_of_ble_eq_true rfl⟩ ⟨Nat.le_trans (Nat.add_le_add_right (Nat.add_le_add_right hc _) _) (Nat.le_of_ble_eq_true rfl), Nat.le_trans (Nat.add_le_add_right (Nat.add_le_add_right hs _) _) (Nat.le_of_ble_eq_true rfl)⟩ dL_law_1059 (Nat.le_of_ble_eq_true rfl)) (fun x1 M1 h1 => ?_)
  obtain ⟨rfl, I2, J2, rfl, hJ⟩ := h1
  refine ll_icmp_eq C (pc := 1062) (tgt := 1359) dL_law_1062 (by decide) (fun _ => ?_) (fun q => absurd rfl q)
  exact ll_wide (by rw [Nat.add_assoc]; exact Nat.add_le_add_left (Nat.le_of_ble_eq_true rfl) _) (by rw [Nat.add_assoc]; exact Nat.add_le_add_left (Nat.le_of_ble_eq_true rfl) _) (kk _ _ _ _ _ hJ hK1)
set_option maxRecDepth 20000 in
theorem L_trace {G : v_G} {l : Launch} {nm : String} {rt : Option FieldType} {Q : State → Prop} {p : Program} {e : Env} {s : State} {m : MethodId} {args : Array Value} {below : List Frame} {meth : Method} {c : Code} {L i : Nat} {xs : Nat → Int32} (C : v_C G l ⟨RL, nm, ""⟩ cL_law 4 rt p s m args meth c) (hX : va_X (G.2.2.2 5) L xs s s.heap) (hbl : G.2.2.2 5 < s.heap.size) (hbA : ¬ v_A G (G.2.2.2 5)) (hL : L ≤ 3072) (hi : i + 6 ≤ L) {K : Nat × v_TY} {I : Nat → Nat → Int32} {J : Nat → Nat → Int64} {R : Nat → Nat → Option Nat} {g : ZS} {cells slots : Nat} (h : ZJ K I J R g) (hK : K.1 < 700000) (hc : cells ≤ 600000) (hs : slots ≤ 7000000)
    (kk : ∀ K' I' J' R' g', ZJ K' I' J' R' g' → K'.1 ≤ K.1 + 6 → v_S G l 4 room_1 Q p e s m args below meth c (cells + 6) (slots + 300) 1359 [some (.ref (1000000 + 5)), some (.ref 0), some (.ref 55), some (.int (nI i))] [] (K', I', J', R')) : v_S G l 4 room_1 Q p e s m args below meth c cells slots 1067 [some (.ref (1000000 + 5)), some (.ref 0), some (.ref 55), some (.int (nI i))] [] (K, I, J, R) := by
  refine ll_aload_n C (pc := 1067) dL_law_1067 rfl rfl ?_
  refine ll_arg C (pc := 1068) (k := 1) hX hbl hbA hL (by omega) (by decide) rfl rfl dL_law_1068 dL_law_1069 dL_law_1070 dL_law_1071 dL_law_1072 ?_
  refine ll_ci C (pc := 1073) (v_rV (jC_trace G l (ii := xs (i + 1)) h hK) rfl kV_L_144 (v_rcO (li_0 h.1) rfl (by decide)) ⟨Nat.le_of_ble_eq_true rfl, Nat.le_of_ble_eq_true rfl⟩ ⟨Nat.le_trans (Nat.add_le_add_right hc _) (Nat.le_of_ble_eq_true rfl), Nat.le_trans (Nat.add_le_add_right hs _) (Nat.le_of_ble_eq_true rfl)⟩ dL_law_1073 (Nat.le_of_ble_eq_true rfl)) (fun x0 M0 h0 => ?_)
  obtain ⟨rfl, K1, I1, J1, R1, rfl, hH, hK1⟩ := h0
  refine ll_aload_n C (pc := 1076) dL_law_1076 rfl rfl ?_
  refine ll_arg C (pc := 1077) (k := 1) hX hbl hbA hL (by omega) (by decide) rfl rfl dL_law_1077 dL_law_1078 dL_law_1079 dL_law_1080 dL_law_1081 ?_
  refine ll_ci C (pc := 1082) (v_rV (jM_trace G l (ii := xs (i + 1)) hH) rfl kV_L_147 (v_rcO (li_55 hH.1) rfl (by decide)) ⟨Nat.le_of_ble_eq_true rfl, Nat.le_of_ble_eq_true rfl⟩ ⟨Nat.le_trans (Nat.add_le_add_right (Nat.add_le_add_right hc _) _) (Nat.le_of_ble_eq_true rfl), Nat.le_trans (Nat.add_le_add_right (Nat.add_le_add_right hs _) _) (Nat.le_of_ble_eq_true rfl)⟩ dL_law_1082 (Nat.le_of_ble_eq_true rfl)) (fun x1 M1 h1 => ?_)
  obtain ⟨rfl, I2, J2, rfl, hJ⟩ := h1
  refine ll_icmp_eq C (pc := 1085) (tgt := 1359) dL_law_1085 (by decide) (fun _ => ?_) (fun q => absurd rfl q)
  exact ll_wide (by rw [Nat.add_assoc]; exact Nat.add_le_add_left (Nat.le_of_ble_eq_true rfl) _) (by rw [Nat.add_assoc]; exact Nat.add_le_add_left (Nat.le_of_ble_eq_true rfl) _) (kk _ _ _ _ _ hJ hK1)
set_option maxRecDepth 20000 in
theorem L_taken {G : v_G} {l : Launch} {nm : String} {rt : Option FieldType} {Q : State → Prop} {p : Program} {e : Env} {s : State} {m : MethodId} {args : Array Value} {below : List Frame} {meth : Method} {c : Code} {L i : Nat} {xs : Nat → Int32} (C : v_C G l ⟨RL, nm, ""⟩ cL_law 4 rt p s m args meth c) (hX : va_X (G.2.2.2 5) L xs s s.heap) (hbl : G.2.2.2 5 < s.heap.size) (hbA : ¬ v_A G (G.2.2.2 5)) (hL : L ≤ 3072) (hi : i + 6 ≤ L) {K : Nat × v_TY} {I : Nat → Nat → Int32} {J : Nat → Nat → Int64} {R : Nat → Nat → Option Nat} {g : ZS} {cells slots : Nat} (h : ZJ K I J R g) (hK : K.1 < 700000) (hc : cells ≤ 600000) (hs : slots ≤ 7000000)
    (kk : ∀ K' I' J' R' g', ZJ K' I' J' R' g' → K'.1 ≤ K.1 + 6 → v_S G l 4 room_1 Q p e s m args below meth c (cells + 6) (slots + 300) 1359 [some (.ref (1000000 + 5)), some (.ref 0), some (.ref 55), some (.int (nI i))] [] (K', I', J', R')) : v_S G l 4 room_1 Q p e s m args below meth c cells slots 1090 [some (.ref (1000000 + 5)), some (.ref 0), some (.ref 55), some (.int (nI i))] [] (K, I, J, R) := by
  refine ll_aload_n C (pc := 1090) dL_law_1090 rfl rfl ?_
  refine ll_arg C (pc := 1091) (k := 1) hX hbl hbA hL (by omega) (by decide) rfl rfl dL_law_1091 dL_law_1092 dL_law_1093 dL_law_1094 dL_law_1095 ?_
  refine ll_arg C (pc := 1096) (k := 2) hX hbl hbA hL (by omega) (by decide) rfl rfl dL_law_1096 dL_law_1097 dL_law_1098 dL_law_1099 dL_law_1100 ?_
  refine ll_ci C (pc := 1101) (v_rV (jC_taken G l (ii := xs (i + 1)) (kk := xs (i + 2)) h hK) rfl kV_L_148 (v_rcO (li_0 h.1) rfl (by decide)) ⟨Nat.le_of_ble_eq_true rfl, Nat.le_of_ble_eq_true rfl⟩ ⟨Nat.le_trans (Nat.add_le_add_right hc _) (Nat.le_of_ble_eq_true rfl), Nat.le_trans (Nat.add_le_add_right hs _) (Nat.le_of_ble_eq_true rfl)⟩ dL_law_1101 (Nat.le_of_ble_eq_true rfl)) (fun x0 M0 h0 => ?_)
  obtain ⟨rfl, K1, I1, J1, R1, rfl, hH, hK1⟩ := h0
  refine ll_aload_n C (pc := 1104) dL_law_1104 rfl rfl ?_
  refine ll_arg C (pc := 1105) (k := 1) hX hbl hbA hL (by omega) (by decide) rfl rfl dL_law_1105 dL_law_1106 dL_law_1107 dL_law_1108 dL_law_1109 ?_
  refine ll_arg C (pc := 1110) (k := 2) hX hbl hbA hL (by omega) (by decide) rfl rfl dL_law_1110 dL_law_1111 dL_law_1112 dL_law_1113 dL_law_1114 ?_
  refine ll_ci C (pc := 1115) (v_rV (jM_taken G l (ii := xs (i + 1)) (kk := xs (i + 2)) hH) rfl kV_L_151 (v_rcO (li_55 hH.1) rfl (by decide)) ⟨Nat.le_of_ble_eq_true rfl, Nat.le_of_ble_eq_true rfl⟩ ⟨Nat.le_trans (Nat.add_le_add_right (Nat.add_le_add_right hc _) _) (Nat.le_of_ble_eq_true rfl), Nat.le_trans (Nat.add_le_add_right (Nat.add_le_add_right hs _) _) (Nat.le_of_ble_eq_true rfl)⟩ dL_law_1115 (Nat.le_of_ble_eq_true rfl)) (fun x1 M1 h1 => ?_)
  obtain ⟨rfl, I2, J2, rfl, hJ⟩ := h1
  refine ll_icmp_eq C (pc := 1118) (tgt := 1359) dL_law_1118 (by decide) (fun _ => ?_) (fun q => absurd rfl q)
  exact ll_wide (by rw [Nat.add_assoc]; exact Nat.add_le_add_left (Nat.le_of_ble_eq_true rfl) _) (by rw [Nat.add_assoc]; exact Nat.add_le_add_left (Nat.le_of_ble_eq_true rfl) _) (kk _ _ _ _ _ hJ hK1)
set_option maxRecDepth 20000 in
theorem L_count {G : v_G} {l : Launch} {nm : String} {rt : Option FieldType} {Q : State → Prop} {p : Program} {e : Env} {s : State} {m : MethodId} {args : Array Value} {below : List Frame} {meth : Method} {c : Code} {L i : Nat} {xs : Nat → Int32} (C : v_C G l ⟨RL, nm, ""⟩ cL_law 4 rt p s m args meth c) (hX : va_X (G.2.2.2 5) L xs s s.heap) (hbl : G.2.2.2 5 < s.heap.size) (hbA : ¬ v_A G (G.2.2.2 5)) (hL : L ≤ 3072) (hi : i + 6 ≤ L) {K : Nat × v_TY} {I : Nat → Nat → Int32} {J : Nat → Nat → Int64} {R : Nat → Nat → Option Nat} {g : ZS} {cells slots : Nat} (h : ZJ K I J R g) (hK : K.1 < 700000) (hc : cells ≤ 600000) (hs : slots ≤ 7000000)
    (kk : ∀ K' I' J' R' g', ZJ K' I' J' R' g' → K'.1 ≤ K.1 + 6 → v_S G l 4 room_1 Q p e s m args below meth c (cells + 6) (slots + 300) 1359 [some (.ref (1000000 + 5)), some (.ref 0), some (.ref 55), some (.int (nI i))] [] (K', I', J', R')) : v_S G l 4 room_1 Q p e s m args below meth c cells slots 1123 [some (.ref (1000000 + 5)), some (.ref 0), some (.ref 55), some (.int (nI i))] [] (K, I, J, R) := by
  refine ll_aload_n C (pc := 1123) dL_law_1123 rfl rfl ?_
  refine ll_arg C (pc := 1124) (k := 1) hX hbl hbA hL (by omega) (by decide) rfl rfl dL_law_1124 dL_law_1125 dL_law_1126 dL_law_1127 dL_law_1128 ?_
  refine ll_ci C (pc := 1129) (v_rV (jC_count G l (ww := xs (i + 1)) h hK) rfl kV_L_152 (v_rcO (li_0 h.1) rfl (by decide)) ⟨Nat.le_of_ble_eq_true rfl, Nat.le_of_ble_eq_true rfl⟩ ⟨Nat.le_trans (Nat.add_le_add_right hc _) (Nat.le_of_ble_eq_true rfl), Nat.le_trans (Nat.add_le_add_right hs _) (Nat.le_of_ble_eq_true rfl)⟩ dL_law_1129 (Nat.le_of_ble_eq_true rfl)) (fun x0 M0 h0 => ?_)
  obtain ⟨rfl, K1, I1, J1, R1, rfl, hH, hK1⟩ := h0
  refine ll_aload_n C (pc := 1132) dL_law_1132 rfl rfl ?_
  refine ll_arg C (pc := 1133) (k := 1) hX hbl hbA hL (by omega) (by decide) rfl rfl dL_law_1133 dL_law_1134 dL_law_1135 dL_law_1136 dL_law_1137 ?_
  refine ll_ci C (pc := 1138) (v_rV (jM_count G l (ww := xs (i + 1)) hH) rfl kV_L_155 (v_rcO (li_55 hH.1) rfl (by decide)) ⟨Nat.le_of_ble_eq_true rfl, Nat.le_of_ble_eq_true rfl⟩ ⟨Nat.le_trans (Nat.add_le_add_right (Nat.add_le_add_right hc _) _) (Nat.le_of_ble_eq_true rfl), Nat.le_trans (Nat.add_le_add_right (Nat.add_le_add_right hs _) _) (Nat.le_of_ble_eq_true rfl)⟩ dL_law_1138 (Nat.le_of_ble_eq_true rfl)) (fun x1 M1 h1 => ?_)
  obtain ⟨rfl, I2, J2, rfl, hJ⟩ := h1
  refine ll_icmp_eq C (pc := 1141) (tgt := 1359) dL_law_1141 (by decide) (fun _ => ?_) (fun q => absurd rfl q)
  exact ll_wide (by rw [Nat.add_assoc]; exact Nat.add_le_add_left (Nat.le_of_ble_eq_true rfl) _) (by rw [Nat.add_assoc]; exact Nat.add_le_add_left (Nat.le_of_ble_eq_true rfl) _) (kk _ _ _ _ _ hJ hK1)
set_option maxRecDepth 20000 in
theorem L_tape {G : v_G} {l : Launch} {nm : String} {rt : Option FieldType} {Q : State → Prop} {p : Program} {e : Env} {s : State} {m : MethodId} {args : Array Value} {below : List Frame} {meth : Method} {c : Code} {L i : Nat} {xs : Nat → Int32} (C : v_C G l ⟨RL, nm, ""⟩ cL_law 4 rt p s m args meth c) (hX : va_X (G.2.2.2 5) L xs s s.heap) (hbl : G.2.2.2 5 < s.heap.size) (hbA : ¬ v_A G (G.2.2.2 5)) (hL : L ≤ 3072) (hi : i + 6 ≤ L) {K : Nat × v_TY} {I : Nat → Nat → Int32} {J : Nat → Nat → Int64} {R : Nat → Nat → Option Nat} {g : ZS} {cells slots : Nat} (h : ZJ K I J R g) (hK : K.1 < 700000) (hc : cells ≤ 600000) (hs : slots ≤ 7000000)
    (kk : ∀ K' I' J' R' g', ZJ K' I' J' R' g' → K'.1 ≤ K.1 + 6 → v_S G l 4 room_1 Q p e s m args below meth c (cells + 6) (slots + 300) 1359 [some (.ref (1000000 + 5)), some (.ref 0), some (.ref 55), some (.int (nI i))] [] (K', I', J', R')) : v_S G l 4 room_1 Q p e s m args below meth c cells slots 1146 [some (.ref (1000000 + 5)), some (.ref 0), some (.ref 55), some (.int (nI i))] [] (K, I, J, R) := by
  refine ll_aload_n C (pc := 1146) dL_law_1146 rfl rfl ?_
  refine ll_arg C (pc := 1147) (k := 1) hX hbl hbA hL (by omega) (by decide) rfl rfl dL_law_1147 dL_law_1148 dL_law_1149 dL_law_1150 dL_law_1151 ?_
  refine ll_arg C (pc := 1152) (k := 2) hX hbl hbA hL (by omega) (by decide) rfl rfl dL_law_1152 dL_law_1153 dL_law_1154 dL_law_1155 dL_law_1156 ?_
  refine ll_arg C (pc := 1157) (k := 3) hX hbl hbA hL (by omega) (by decide) rfl rfl dL_law_1157 dL_law_1158 dL_law_1159 dL_law_1160 dL_law_1161 ?_
  refine ll_ci C (pc := 1162) (v_rV (jC_tape G l (tt := xs (i + 1)) (ss := xs (i + 2)) (nn := xs (i + 3)) h hK) rfl kV_L_156 (v_rcO (li_0 h.1) rfl (by decide)) ⟨Nat.le_of_ble_eq_true rfl, Nat.le_of_ble_eq_true rfl⟩ ⟨Nat.le_trans (Nat.add_le_add_right hc _) (Nat.le_of_ble_eq_true rfl), Nat.le_trans (Nat.add_le_add_right hs _) (Nat.le_of_ble_eq_true rfl)⟩ dL_law_1162 (Nat.le_of_ble_eq_true rfl)) (fun x0 M0 h0 => ?_)
  obtain ⟨rfl, K1, I1, J1, R1, rfl, hH, hK1⟩ := h0
  refine ll_aload_n C (pc := 1165) dL_law_1165 rfl rfl ?_
  refine ll_arg C (pc := 1166) (k := 1) hX hbl hbA hL (by omega) (by decide) rfl rfl dL_law_1166 dL_law_1167 dL_law_1168 dL_law_1169 dL_law_1170 ?_
  refine ll_arg C (pc := 1171) (k := 2) hX hbl hbA hL (by omega) (by decide) rfl rfl dL_law_1171 dL_law_1172 dL_law_1173 dL_law_1174 dL_law_1175 ?_
  refine ll_arg C (pc := 1176) (k := 3) hX hbl hbA hL (by omega) (by decide) rfl rfl dL_law_1176 dL_law_1177 dL_law_1178 dL_law_1179 dL_law_1180 ?_
  refine ll_ci C (pc := 1181) (v_rV (jM_tape G l (tt := xs (i + 1)) (ss := xs (i + 2)) (nn := xs (i + 3)) hH) rfl kV_L_159 (v_rcO (li_55 hH.1) rfl (by decide)) ⟨Nat.le_of_ble_eq_true rfl, Nat.le_of_ble_eq_true rfl⟩ ⟨Nat.le_trans (Nat.add_le_add_right (Nat.add_le_add_right hc _) _) (Nat.le_of_ble_eq_true rfl), Nat.le_trans (Nat.add_le_add_right (Nat.add_le_add_right hs _) _) (Nat.le_of_ble_eq_true rfl)⟩ dL_law_1181 (Nat.le_of_ble_eq_true rfl)) (fun x1 M1 h1 => ?_)
  obtain ⟨rfl, I2, J2, rfl, hJ⟩ := h1
  refine ll_icmp_eq C (pc := 1184) (tgt := 1359) dL_law_1184 (by decide) (fun _ => ?_) (fun q => absurd rfl q)
  exact ll_wide (by rw [Nat.add_assoc]; exact Nat.add_le_add_left (Nat.le_of_ble_eq_true rfl) _) (by rw [Nat.add_assoc]; exact Nat.add_le_add_left (Nat.le_of_ble_eq_true rfl) _) (kk _ _ _ _ _ hJ hK1)
set_option maxRecDepth 20000 in
theorem L_item {G : v_G} {l : Launch} {nm : String} {rt : Option FieldType} {Q : State → Prop} {p : Program} {e : Env} {s : State} {m : MethodId} {args : Array Value} {below : List Frame} {meth : Method} {c : Code} {L i : Nat} {xs : Nat → Int32} (C : v_C G l ⟨RL, nm, ""⟩ cL_law 4 rt p s m args meth c) (hX : va_X (G.2.2.2 5) L xs s s.heap) (hbl : G.2.2.2 5 < s.heap.size) (hbA : ¬ v_A G (G.2.2.2 5)) (hL : L ≤ 3072) (hi : i + 6 ≤ L) {K : Nat × v_TY} {I : Nat → Nat → Int32} {J : Nat → Nat → Int64} {R : Nat → Nat → Option Nat} {g : ZS} {cells slots : Nat} (h : ZJ K I J R g) (hK : K.1 < 700000) (hc : cells ≤ 600000) (hs : slots ≤ 7000000)
    (kk : ∀ K' I' J' R' g', ZJ K' I' J' R' g' → K'.1 ≤ K.1 + 6 → v_S G l 4 room_1 Q p e s m args below meth c (cells + 6) (slots + 300) 1359 [some (.ref (1000000 + 5)), some (.ref 0), some (.ref 55), some (.int (nI i))] [] (K', I', J', R')) : v_S G l 4 room_1 Q p e s m args below meth c cells slots 1189 [some (.ref (1000000 + 5)), some (.ref 0), some (.ref 55), some (.int (nI i))] [] (K, I, J, R) := by
  refine ll_aload_n C (pc := 1189) dL_law_1189 rfl rfl ?_
  refine ll_arg C (pc := 1190) (k := 1) hX hbl hbA hL (by omega) (by decide) rfl rfl dL_law_1190 dL_law_1191 dL_law_1192 dL_law_1193 dL_law_1194 ?_
  refine ll_arg C (pc := 1195) (k := 2) hX hbl hbA hL (by omega) (by decide) rfl rfl dL_law_1195 dL_law_1196 dL_law_1197 dL_law_1198 dL_law_1199 ?_
  refine ll_arg C (pc := 1200) (k := 3) hX hbl hbA hL (by omega) (by decide) rfl rfl dL_law_1200 dL_law_1201 dL_law_1202 dL_law_1203 dL_law_1204 ?_
  refine ll_i2l C (pc := 1205) dL_law_1205 ?_
  refine ll_bipush C (pc := 1206) (v := 32) dL_law_1206 (by decide) ?_
  refine ll_lshl C (pc := 1208) dL_law_1208 rfl ?_
  refine ll_arg C (pc := 1209) (k := 4) hX hbl hbA hL (by omega) (by decide) rfl rfl dL_law_1209 dL_law_1210 dL_law_1211 dL_law_1212 dL_law_1213 ?_
  refine ll_i2l C (pc := 1214) dL_law_1214 ?_
  refine ll_ldc2 C (pc := 1215) ld_L_160 dL_law_1215 ?_
  refine ll_land C (pc := 1218) dL_law_1218 ?_
  refine ll_lor C (pc := 1219) dL_law_1219 ?_
  refine ll_ci C (pc := 1220) (v_rV (jC_item G l (tt := xs (i + 1)) (ii := xs (i + 2)) h hK) rfl kV_L_162 (v_rcO (li_0 h.1) rfl (by decide)) ⟨Nat.le_of_ble_eq_true rfl, Nat.le_of_ble_eq_true rfl⟩ ⟨Nat.le_trans (Nat.add_le_add_right hc _) (Nat.le_of_ble_eq_true rfl), Nat.le_trans (Nat.add_le_add_right hs _) (Nat.le_of_ble_eq_true rfl)⟩ dL_law_1220 (Nat.le_of_ble_eq_true rfl)) (fun x0 M0 h0 => ?_)
  obtain ⟨rfl, K1, I1, J1, R1, rfl, hH, hK1⟩ := h0
  refine ll_aload_n C (pc := 1223) dL_law_1223 rfl rfl ?_
  refine ll_arg C (pc := 1224) (k := 1) hX hbl hbA hL (by omega) (by decide) rfl rfl dL_law_1224 dL_law_1225 dL_law_1226 dL_law_1227 dL_law_1228 ?_
  refine ll_arg C (pc := 1229) (k := 2) hX hbl hbA hL (by omega) (by decide) rfl rfl dL_law_1229 dL_law_1230 dL_law_1231 dL_law_1232 dL_law_1233 ?_
  refine ll_arg C (pc := 1234) (k := 3) hX hbl hbA hL (by omega) (by decide) rfl rfl dL_law_1234 dL_law_1235 dL_law_1236 dL_law_1237 dL_law_1238 ?_
  refine ll_i2l C (pc := 1239) dL_law_1239 ?_
  refine ll_bipush C (pc := 1240) (v := 32) dL_law_1240 (by decide) ?_
  refine ll_lshl C (pc := 1242) dL_law_1242 rfl ?_
  refine ll_arg C (pc := 1243) (k := 4) hX hbl hbA hL (by omega) (by decide) rfl rfl dL_law_1243 dL_law_1244 dL_law_1245 dL_law_1246 dL_law_1247 ?_
  refine ll_i2l C (pc := 1248) dL_law_1248 ?_
  refine ll_ldc2 C (pc := 1249) ld_L_160 dL_law_1249 ?_
  refine ll_land C (pc := 1252) dL_law_1252 ?_
  refine ll_lor C (pc := 1253) dL_law_1253 ?_
  refine ll_ci C (pc := 1254) (v_rV (jM_item G l (tt := xs (i + 1)) (ii := xs (i + 2)) hH) rfl kV_L_166 (v_rcO (li_55 hH.1) rfl (by decide)) ⟨Nat.le_of_ble_eq_true rfl, Nat.le_of_ble_eq_true rfl⟩ ⟨Nat.le_trans (Nat.add_le_add_right (Nat.add_le_add_right hc _) _) (Nat.le_of_ble_eq_true rfl), Nat.le_trans (Nat.add_le_add_right (Nat.add_le_add_right hs _) _) (Nat.le_of_ble_eq_true rfl)⟩ dL_law_1254 (Nat.le_of_ble_eq_true rfl)) (fun x1 M1 h1 => ?_)
  obtain ⟨rfl, I2, J2, rfl, hJ⟩ := h1
  refine ll_icmp_eq C (pc := 1257) (tgt := 1359) dL_law_1257 (by decide) (fun _ => ?_) (fun q => absurd rfl q)
  exact ll_wide (by rw [Nat.add_assoc]; exact Nat.add_le_add_left (Nat.le_of_ble_eq_true rfl) _) (by rw [Nat.add_assoc]; exact Nat.add_le_add_left (Nat.le_of_ble_eq_true rfl) _) (kk _ _ _ _ _ hJ hK1)
set_option maxRecDepth 20000 in
theorem L_read {G : v_G} {l : Launch} {nm : String} {rt : Option FieldType} {Q : State → Prop} {p : Program} {e : Env} {s : State} {m : MethodId} {args : Array Value} {below : List Frame} {meth : Method} {c : Code} {L i : Nat} {xs : Nat → Int32} (C : v_C G l ⟨RL, nm, ""⟩ cL_law 4 rt p s m args meth c) (hX : va_X (G.2.2.2 5) L xs s s.heap) (hbl : G.2.2.2 5 < s.heap.size) (hbA : ¬ v_A G (G.2.2.2 5)) (hL : L ≤ 3072) (hi : i + 6 ≤ L) {K : Nat × v_TY} {I : Nat → Nat → Int32} {J : Nat → Nat → Int64} {R : Nat → Nat → Option Nat} {g : ZS} {cells slots : Nat} (h : ZJ K I J R g) (hK : K.1 < 700000) (hc : cells ≤ 600000) (hs : slots ≤ 7000000)
    (kk : ∀ K' I' J' R' g', ZJ K' I' J' R' g' → K'.1 ≤ K.1 + 6 → v_S G l 4 room_1 Q p e s m args below meth c (cells + 6) (slots + 300) 1359 [some (.ref (1000000 + 5)), some (.ref 0), some (.ref 55), some (.int (nI i))] [] (K', I', J', R')) : v_S G l 4 room_1 Q p e s m args below meth c cells slots 1262 [some (.ref (1000000 + 5)), some (.ref 0), some (.ref 55), some (.int (nI i))] [] (K, I, J, R) := by
  refine ll_aload_n C (pc := 1262) dL_law_1262 rfl rfl ?_
  refine ll_arg C (pc := 1263) (k := 1) hX hbl hbA hL (by omega) (by decide) rfl rfl dL_law_1263 dL_law_1264 dL_law_1265 dL_law_1266 dL_law_1267 ?_
  refine ll_arg C (pc := 1268) (k := 2) hX hbl hbA hL (by omega) (by decide) rfl rfl dL_law_1268 dL_law_1269 dL_law_1270 dL_law_1271 dL_law_1272 ?_
  refine ll_cl C (pc := 1273) (v_rV (jC_read G l (tt := xs (i + 1)) (ii := xs (i + 2)) h hK) rfl kV_L_167 (v_rcO (li_0 h.1) rfl (by decide)) ⟨Nat.le_of_ble_eq_true rfl, Nat.le_of_ble_eq_true rfl⟩ ⟨Nat.le_trans (Nat.add_le_add_right hc _) (Nat.le_of_ble_eq_true rfl), Nat.le_trans (Nat.add_le_add_right hs _) (Nat.le_of_ble_eq_true rfl)⟩ dL_law_1273 (Nat.le_of_ble_eq_true rfl)) (fun x0 M0 h0 => ?_)
  obtain ⟨rfl, K1, I1, J1, R1, rfl, hH, hK1⟩ := h0
  refine ll_aload_n C (pc := 1276) dL_law_1276 rfl rfl ?_
  refine ll_arg C (pc := 1277) (k := 1) hX hbl hbA hL (by omega) (by decide) rfl rfl dL_law_1277 dL_law_1278 dL_law_1279 dL_law_1280 dL_law_1281 ?_
  refine ll_arg C (pc := 1282) (k := 2) hX hbl hbA hL (by omega) (by decide) rfl rfl dL_law_1282 dL_law_1283 dL_law_1284 dL_law_1285 dL_law_1286 ?_
  refine ll_cl C (pc := 1287) (v_rV (jM_read G l (tt := xs (i + 1)) (ii := xs (i + 2)) hH) rfl kV_L_171 (v_rcO (li_55 hH.1) rfl (by decide)) ⟨Nat.le_of_ble_eq_true rfl, Nat.le_of_ble_eq_true rfl⟩ ⟨Nat.le_trans (Nat.add_le_add_right (Nat.add_le_add_right hc _) _) (Nat.le_of_ble_eq_true rfl), Nat.le_trans (Nat.add_le_add_right (Nat.add_le_add_right hs _) _) (Nat.le_of_ble_eq_true rfl)⟩ dL_law_1287 (Nat.le_of_ble_eq_true rfl)) (fun x1 M1 h1 => ?_)
  obtain ⟨rfl, I2, J2, rfl, hJ⟩ := h1
  refine ll_lcmp C (pc := 1290) dL_law_1290 ?_
  refine ll_if_eq C (pc := 1291) (tgt := 1359) dL_law_1291 (by decide) (fun _ => ?_) (fun q => absurd (x_cmp0.mpr rfl) q)
  exact ll_wide (by rw [Nat.add_assoc]; exact Nat.add_le_add_left (Nat.le_of_ble_eq_true rfl) _) (by rw [Nat.add_assoc]; exact Nat.add_le_add_left (Nat.le_of_ble_eq_true rfl) _) (kk _ _ _ _ _ hJ hK1)
set_option maxRecDepth 20000 in
theorem L_shift {G : v_G} {l : Launch} {nm : String} {rt : Option FieldType} {Q : State → Prop} {p : Program} {e : Env} {s : State} {m : MethodId} {args : Array Value} {below : List Frame} {meth : Method} {c : Code} {L i : Nat} {xs : Nat → Int32} (C : v_C G l ⟨RL, nm, ""⟩ cL_law 4 rt p s m args meth c) (hX : va_X (G.2.2.2 5) L xs s s.heap) (hbl : G.2.2.2 5 < s.heap.size) (hbA : ¬ v_A G (G.2.2.2 5)) (hL : L ≤ 3072) (hi : i + 6 ≤ L) {K : Nat × v_TY} {I : Nat → Nat → Int32} {J : Nat → Nat → Int64} {R : Nat → Nat → Option Nat} {g : ZS} {cells slots : Nat} (h : ZJ K I J R g) (hK : K.1 < 700000) (hc : cells ≤ 600000) (hs : slots ≤ 7000000)
    (kk : ∀ K' I' J' R' g', ZJ K' I' J' R' g' → K'.1 ≤ K.1 + 6 → v_S G l 4 room_1 Q p e s m args below meth c (cells + 6) (slots + 300) 1359 [some (.ref (1000000 + 5)), some (.ref 0), some (.ref 55), some (.int (nI i))] [] (K', I', J', R')) : v_S G l 4 room_1 Q p e s m args below meth c cells slots 1296 [some (.ref (1000000 + 5)), some (.ref 0), some (.ref 55), some (.int (nI i))] [] (K, I, J, R) := by
  refine ll_aload_n C (pc := 1296) dL_law_1296 rfl rfl ?_
  refine ll_arg C (pc := 1297) (k := 1) hX hbl hbA hL (by omega) (by decide) rfl rfl dL_law_1297 dL_law_1298 dL_law_1299 dL_law_1300 dL_law_1301 ?_
  refine ll_arg C (pc := 1302) (k := 2) hX hbl hbA hL (by omega) (by decide) rfl rfl dL_law_1302 dL_law_1303 dL_law_1304 dL_law_1305 dL_law_1306 ?_
  refine ll_arg C (pc := 1307) (k := 3) hX hbl hbA hL (by omega) (by decide) rfl rfl dL_law_1307 dL_law_1308 dL_law_1309 dL_law_1310 dL_law_1311 ?_
  refine ll_arg C (pc := 1312) (k := 4) hX hbl hbA hL (by omega) (by decide) rfl rfl dL_law_1312 dL_law_1313 dL_law_1314 dL_law_1315 dL_law_1316 ?_
  refine ll_arg C (pc := 1317) (k := 5) hX hbl hbA hL (by omega) (by decide) rfl rfl dL_law_1317 dL_law_1318 dL_law_1319 dL_law_1320 dL_law_1321 ?_
  refine ll_ci C (pc := 1322) (v_rV (jC_shift G l (tt := xs (i + 1)) (ii := xs (i + 2)) (oo := xs (i + 3)) (jj := xs (i + 4)) (nn := xs (i + 5)) h hK) rfl kV_L_172 (v_rcO (li_0 h.1) rfl (by decide)) ⟨Nat.le_of_ble_eq_true rfl, Nat.le_of_ble_eq_true rfl⟩ ⟨Nat.le_trans (Nat.add_le_add_right hc _) (Nat.le_of_ble_eq_true rfl), Nat.le_trans (Nat.add_le_add_right hs _) (Nat.le_of_ble_eq_true rfl)⟩ dL_law_1322 (Nat.le_of_ble_eq_true rfl)) (fun x0 M0 h0 => ?_)
  obtain ⟨rfl, K1, I1, J1, R1, rfl, hH, hK1⟩ := h0
  refine ll_aload_n C (pc := 1325) dL_law_1325 rfl rfl ?_
  refine ll_arg C (pc := 1326) (k := 1) hX hbl hbA hL (by omega) (by decide) rfl rfl dL_law_1326 dL_law_1327 dL_law_1328 dL_law_1329 dL_law_1330 ?_
  refine ll_arg C (pc := 1331) (k := 2) hX hbl hbA hL (by omega) (by decide) rfl rfl dL_law_1331 dL_law_1332 dL_law_1333 dL_law_1334 dL_law_1335 ?_
  refine ll_arg C (pc := 1336) (k := 3) hX hbl hbA hL (by omega) (by decide) rfl rfl dL_law_1336 dL_law_1337 dL_law_1338 dL_law_1339 dL_law_1340 ?_
  refine ll_arg C (pc := 1341) (k := 4) hX hbl hbA hL (by omega) (by decide) rfl rfl dL_law_1341 dL_law_1342 dL_law_1343 dL_law_1344 dL_law_1345 ?_
  refine ll_arg C (pc := 1346) (k := 5) hX hbl hbA hL (by omega) (by decide) rfl rfl dL_law_1346 dL_law_1347 dL_law_1348 dL_law_1349 dL_law_1350 ?_
  refine ll_ci C (pc := 1351) (v_rV (jM_shift G l (tt := xs (i + 1)) (ii := xs (i + 2)) (oo := xs (i + 3)) (jj := xs (i + 4)) (nn := xs (i + 5)) hH) rfl kV_L_176 (v_rcO (li_55 hH.1) rfl (by decide)) ⟨Nat.le_of_ble_eq_true rfl, Nat.le_of_ble_eq_true rfl⟩ ⟨Nat.le_trans (Nat.add_le_add_right (Nat.add_le_add_right hc _) _) (Nat.le_of_ble_eq_true rfl), Nat.le_trans (Nat.add_le_add_right (Nat.add_le_add_right hs _) _) (Nat.le_of_ble_eq_true rfl)⟩ dL_law_1351 (Nat.le_of_ble_eq_true rfl)) (fun x1 M1 h1 => ?_)
  obtain ⟨rfl, I2, J2, rfl, hJ⟩ := h1
  refine ll_icmp_eq C (pc := 1354) (tgt := 1359) dL_law_1354 (by decide) (fun _ => ?_) (fun q => absurd rfl q)
  exact ll_wide (by rw [Nat.add_assoc]; exact Nat.add_le_add_left (Nat.le_of_ble_eq_true rfl) _) (by rw [Nat.add_assoc]; exact Nat.add_le_add_left (Nat.le_of_ble_eq_true rfl) _) (kk _ _ _ _ _ hJ hK1)
