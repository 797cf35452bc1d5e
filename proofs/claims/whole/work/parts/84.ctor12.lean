/-! THE REFERENCE: its constructor -/
def pI (s : Nat) (x : Int32) (M : v_MM) : v_MM := (M.1, v_u M.2.1 55 s x, M.2.2.1, M.2.2.2)
def wl (h : Nat) (l : List (Nat × Int32)) (I : Nat → Nat → Int32) : Nat → Nat → Int32 := l.foldl (fun I p => v_u I h p.1 p.2) I
def aW (k n s : Nat) (l : List (Nat × Int32)) (M : v_MM) : v_MM := (v_k M.1 k n, wl M.1.1 l (v_z M.2.1 M.1.1 0), v_z M.2.2.1 M.1.1 0, v_u (v_z M.2.2.2 M.1.1 none) 55 s (some M.1.1))
abbrev rm_X12_init : Room := { frames := 1, cells := 35, slots := 1808, locals := 20 }
set_option maxRecDepth 20000 in
theorem c_X12_init (G : v_G) (l : Launch) {K : Nat × v_TY} {I : Nat → Nat → Int32} {J : Nat → Nat → Int64} {R : Nat → Nat → Option Nat} (h5 : v_is K 55 12 0) (hk : K.1 = 56) : v_M G l yX12_init cX12_init 1 none rm_X12_init [.ref 55] (K, I, J, R) (v_Qv G (fun (M' : v_MM) => M' = (aW 15 60 60 [] (aW 15 360 59 [] (aW 14 6 58 [] (aW 14 6 57 [(0, (-1)), (1, (-1)), (2, (-1)), (3, (-1)), (4, (-1)), (5, (-1))] (aW 14 20 56 [] (pI 55 (nI 0) (aW 16 6 54 [] (aW 14 12 53 [] (aW 14 12 52 [] (aW 14 6 51 [] (aW 14 7 50 [] (aW 14 28 49 [] (aW 14 7 48 [] (aW 14 7 47 [] (aW 14 7 46 [] (pI 45 (nI 0) (pI 44 (nI 0) (pI 43 (nI 0) (pI 42 (nI 0) (pI 41 (-1) (pI 40 (nI 0) (aW 16 6 39 [] (aW 14 12 38 [] (aW 14 12 37 [] (aW 14 6 36 [] (pI 35 (nI 0) (pI 34 (nI 0) (aW 14 5 33 [] (pI 32 (nI 0) (pI 31 (nI 0) (pI 30 (-1) (pI 29 (nI 0) (aW 14 7 28 [] (pI 27 (nI 0) (pI 26 (nI 0) (aW 16 100 25 [] (aW 14 13 24 [(0, (nI 119)), (1, (nI 97)), (2, (nI 110)), (3, (nI 116)), (4, (nI 109)), (5, (nI 97)), (6, (nI 107)), (7, (nI 101)), (8, (nI 98)), (9, (nI 114)), (10, (nI 101)), (11, (nI 97)), (12, (nI 107))] (pI 23 (nI 0) (pI 22 (nI 0) (pI 21 (nI 0) (aW 14 101 20 [] (aW 14 600 19 [] (aW 14 60 18 [] (aW 14 60 17 [] (aW 14 60 16 [] (aW 14 60 15 [] (aW 14 6 14 [] (aW 14 100 13 [] (pI 12 (nI 0) (pI 11 (nI 0) (pI 10 (nI 0) (pI 9 (-1) (pI 8 (nI 0) (aW 14 7 7 [] (aW 14 28 6 [] (aW 14 7 5 [] (aW 14 7 4 [] (aW 14 7 3 [] (pI 2 (-1) (pI 1 (nI 0) (pI 0 (nI 0) (K, I, J, R)))))))))))))))))))))))))))))))))))))))))))))))))))))))))))))))) := by
  refine v_of [some (.ref 55)] (by decide) (Nat.le_of_ble_eq_true rfl) (Nat.le_of_ble_eq_true rfl) rfl ?_
  refine v_aload_n (pc := 0) dX12_init_0 rfl rfl ?_
  refine v_objInit (pc := 1) kO_X12_1 ko1 ko2 dX12_init_1 (Nat.le_of_ble_eq_true rfl) (Nat.le_of_ble_eq_true rfl) ?_
  have k8 : ∀ (K : Nat × v_TY) (I : Nat → Nat → Int32) (J : Nat → Nat → Int64) (R : Nat → Nat → Option Nat), v_is K 55 12 0 → K.1 = 91 → v_V G l yX12_init cX12_init 1 none rm_X12_init (v_Qv G (fun (M' : v_MM) => M' = (K, I, J, R))) 35 1808 511 [some (.ref 55)] [] (K, I, J, R) := by
    intro K I J R h5 hk
    exact v_vret (pc := 511) dX12_init_511 rfl (Nat.le_of_ble_eq_true rfl) (Nat.le_of_ble_eq_true rfl) rfl
  have k7 : ∀ (K : Nat × v_TY) (I : Nat → Nat → Int32) (J : Nat → Nat → Int64) (R : Nat → Nat → Option Nat), v_is K 55 12 0 → K.1 = 86 → v_V G l yX12_init cX12_init 1 none rm_X12_init (v_Qv G (fun (M' : v_MM) => M' = (aW 15 60 60 [] (aW 15 360 59 [] (aW 14 6 58 [] (aW 14 6 57 [(0, (-1)), (1, (-1)), (2, (-1)), (3, (-1)), (4, (-1)), (5, (-1))] (aW 14 20 56 [] (K, I, J, R)))))))) 30 1356 446 [some (.ref 55)] [] (K, I, J, R) := by
    intro K I J R h5 hk
    refine v_aload_n (pc := 446) dX12_init_446 rfl rfl ?_
    refine v_bipush (pc := 447) (v := nI 20) dX12_init_447 (by decide) ?_
    refine v_newa_int (pc := 449) ac_int dX12_init_449 (t_nn (by decide)) (nI_clamp (by decide)) (by decide) (by (try simp only [v_k]); omega) (Nat.le_of_ble_eq_true rfl) (Nat.le_of_ble_eq_true rfl) ?_
    refine v_putH (pc := 451) pg_X12_181_12 (fun _ => rfl) dX12_init_451 (v_is_old h5) (fun _ => rfl) rfl ?_
    refine v_aload_n (pc := 454) dX12_init_454 rfl rfl ?_
    refine v_bipush (pc := 455) (v := nI 6) dX12_init_455 (by decide) ?_
    refine v_newa_int (pc := 457) ac_int dX12_init_457 (t_nn (by decide)) (nI_clamp (by decide)) (by decide) (by (try simp only [v_k]); omega) (Nat.le_of_ble_eq_true rfl) (Nat.le_of_ble_eq_true rfl) ?_
    refine v_dup (pc := 459) dX12_init_459 rfl ?_
    refine v_iconst (pc := 460) (v := nI 0) dX12_init_460 (by decide) ?_
    refine v_iconst (pc := 461) (v := -1) dX12_init_461 (by decide) ?_
    refine v_iastoreN (pc := 462) dX12_init_462 v_is_new ⟨by omega, by omega⟩ ?_
    refine v_dup (pc := 463) dX12_init_463 rfl ?_
    refine v_iconst (pc := 464) (v := nI 1) dX12_init_464 (by decide) ?_
    refine v_iconst (pc := 465) (v := -1) dX12_init_465 (by decide) ?_
    refine v_iastoreN (pc := 466) dX12_init_466 v_is_new ⟨by omega, by omega⟩ ?_
    refine v_dup (pc := 467) dX12_init_467 rfl ?_
    refine v_iconst (pc := 468) (v := nI 2) dX12_init_468 (by decide) ?_
    refine v_iconst (pc := 469) (v := -1) dX12_init_469 (by decide) ?_
    refine v_iastoreN (pc := 470) dX12_init_470 v_is_new ⟨by omega, by omega⟩ ?_
    refine v_dup (pc := 471) dX12_init_471 rfl ?_
    refine v_iconst (pc := 472) (v := nI 3) dX12_init_472 (by decide) ?_
    refine v_iconst (pc := 473) (v := -1) dX12_init_473 (by decide) ?_
    refine v_iastoreN (pc := 474) dX12_init_474 v_is_new ⟨by omega, by omega⟩ ?_
    refine v_dup (pc := 475) dX12_init_475 rfl ?_
    refine v_iconst (pc := 476) (v := nI 4) dX12_init_476 (by decide) ?_
    refine v_iconst (pc := 477) (v := -1) dX12_init_477 (by decide) ?_
    refine v_iastoreN (pc := 478) dX12_init_478 v_is_new ⟨by omega, by omega⟩ ?_
    refine v_dup (pc := 479) dX12_init_479 rfl ?_
    refine v_iconst (pc := 480) (v := nI 5) dX12_init_480 (by decide) ?_
    refine v_iconst (pc := 481) (v := -1) dX12_init_481 (by decide) ?_
    refine v_iastoreN (pc := 482) dX12_init_482 v_is_new ⟨by omega, by omega⟩ ?_
    refine v_putH (pc := 483) pg_X12_184_12 (fun _ => rfl) dX12_init_483 (v_is_old (v_is_old h5)) (fun _ => rfl) rfl ?_
    refine v_aload_n (pc := 486) dX12_init_486 rfl rfl ?_
    refine v_bipush (pc := 487) (v := nI 6) dX12_init_487 (by decide) ?_
    refine v_newa_int (pc := 489) ac_int dX12_init_489 (t_nn (by decide)) (nI_clamp (by decide)) (by decide) (by (try simp only [v_k]); omega) (Nat.le_of_ble_eq_true rfl) (Nat.le_of_ble_eq_true rfl) ?_
    refine v_putH (pc := 491) pg_X12_187_12 (fun _ => rfl) dX12_init_491 (v_is_old (v_is_old (v_is_old h5))) (fun _ => rfl) rfl ?_
    refine v_aload_n (pc := 494) dX12_init_494 rfl rfl ?_
    refine v_sipush (pc := 495) (v := nI 360) dX12_init_495 (by decide) ?_
    refine v_newa_long (pc := 498) ac_long dX12_init_498 (t_nn (by decide)) (nI_clamp (by decide)) (by decide) (by (try simp only [v_k]); omega) (Nat.le_of_ble_eq_true rfl) (Nat.le_of_ble_eq_true rfl) ?_
    refine v_putH (pc := 500) pg_X12_190_12 (fun _ => rfl) dX12_init_500 (v_is_old (v_is_old (v_is_old (v_is_old h5)))) (fun _ => rfl) rfl ?_
    refine v_aload_n (pc := 503) dX12_init_503 rfl rfl ?_
    refine v_bipush (pc := 504) (v := nI 60) dX12_init_504 (by decide) ?_
    refine v_newa_long (pc := 506) ac_long dX12_init_506 (t_nn (by decide)) (nI_clamp (by decide)) (by decide) (by (try simp only [v_k]); omega) (Nat.le_of_ble_eq_true rfl) (Nat.le_of_ble_eq_true rfl) ?_
    refine v_putH (pc := 508) pg_X12_194_12 (fun _ => rfl) dX12_init_508 (v_is_old (v_is_old (v_is_old (v_is_old (v_is_old h5))))) (fun _ => rfl) rfl ?_
    exact k8 _ _ _ _ (v_is_old (v_is_old (v_is_old (v_is_old (v_is_old h5))))) (by show K.1 + 1 + 1 + 1 + 1 + 1 = 91; omega)
  have k6 : ∀ (K : Nat × v_TY) (I : Nat → Nat → Int32) (J : Nat → Nat → Int64) (R : Nat → Nat → Option Nat), v_is K 55 12 0 → K.1 = 79 → v_V G l yX12_init cX12_init 1 none rm_X12_init (v_Qv G (fun (M' : v_MM) => M' = (aW 15 60 60 [] (aW 15 360 59 [] (aW 14 6 58 [] (aW 14 6 57 [(0, (-1)), (1, (-1)), (2, (-1)), (3, (-1)), (4, (-1)), (5, (-1))] (aW 14 20 56 [] (pI 55 (nI 0) (aW 16 6 54 [] (aW 14 12 53 [] (aW 14 12 52 [] (aW 14 6 51 [] (aW 14 7 50 [] (aW 14 28 49 [] (aW 14 7 48 [] (K, I, J, R)))))))))))))))) 23 1278 385 [some (.ref 55)] [] (K, I, J, R) := by
    intro K I J R h5 hk
    refine v_aload_n (pc := 385) dX12_init_385 rfl rfl ?_
    refine v_bipush (pc := 386) (v := nI 7) dX12_init_386 (by decide) ?_
    refine v_newa_int (pc := 388) ac_int dX12_init_388 (t_nn (by decide)) (nI_clamp (by decide)) (by decide) (by (try simp only [v_k]); omega) (Nat.le_of_ble_eq_true rfl) (Nat.le_of_ble_eq_true rfl) ?_
    refine v_putH (pc := 390) pg_X12_157_12 (fun _ => rfl) dX12_init_390 (v_is_old h5) (fun _ => rfl) rfl ?_
    refine v_aload_n (pc := 393) dX12_init_393 rfl rfl ?_
    refine v_bipush (pc := 394) (v := nI 28) dX12_init_394 (by decide) ?_
    refine v_newa_int (pc := 396) ac_int dX12_init_396 (t_nn (by decide)) (nI_clamp (by decide)) (by decide) (by (try simp only [v_k]); omega) (Nat.le_of_ble_eq_true rfl) (Nat.le_of_ble_eq_true rfl) ?_
    refine v_putH (pc := 398) pg_X12_160_12 (fun _ => rfl) dX12_init_398 (v_is_old (v_is_old h5)) (fun _ => rfl) rfl ?_
    refine v_aload_n (pc := 401) dX12_init_401 rfl rfl ?_
    refine v_bipush (pc := 402) (v := nI 7) dX12_init_402 (by decide) ?_
    refine v_newa_int (pc := 404) ac_int dX12_init_404 (t_nn (by decide)) (nI_clamp (by decide)) (by decide) (by (try simp only [v_k]); omega) (Nat.le_of_ble_eq_true rfl) (Nat.le_of_ble_eq_true rfl) ?_
    refine v_putH (pc := 406) pg_X12_163_12 (fun _ => rfl) dX12_init_406 (v_is_old (v_is_old (v_is_old h5))) (fun _ => rfl) rfl ?_
    refine v_aload_n (pc := 409) dX12_init_409 rfl rfl ?_
    refine v_bipush (pc := 410) (v := nI 6) dX12_init_410 (by decide) ?_
    refine v_newa_int (pc := 412) ac_int dX12_init_412 (t_nn (by decide)) (nI_clamp (by decide)) (by decide) (by (try simp only [v_k]); omega) (Nat.le_of_ble_eq_true rfl) (Nat.le_of_ble_eq_true rfl) ?_
    refine v_putH (pc := 414) pg_X12_166_12 (fun _ => rfl) dX12_init_414 (v_is_old (v_is_old (v_is_old (v_is_old h5)))) (fun _ => rfl) rfl ?_
    refine v_aload_n (pc := 417) dX12_init_417 rfl rfl ?_
    refine v_bipush (pc := 418) (v := nI 12) dX12_init_418 (by decide) ?_
    refine v_newa_int (pc := 420) ac_int dX12_init_420 (t_nn (by decide)) (nI_clamp (by decide)) (by decide) (by (try simp only [v_k]); omega) (Nat.le_of_ble_eq_true rfl) (Nat.le_of_ble_eq_true rfl) ?_
    refine v_putH (pc := 422) pg_X12_169_12 (fun _ => rfl) dX12_init_422 (v_is_old (v_is_old (v_is_old (v_is_old (v_is_old h5))))) (fun _ => rfl) rfl ?_
    refine v_aload_n (pc := 425) dX12_init_425 rfl rfl ?_
    refine v_bipush (pc := 426) (v := nI 12) dX12_init_426 (by decide) ?_
    refine v_newa_int (pc := 428) ac_int dX12_init_428 (t_nn (by decide)) (nI_clamp (by decide)) (by decide) (by (try simp only [v_k]); omega) (Nat.le_of_ble_eq_true rfl) (Nat.le_of_ble_eq_true rfl) ?_
    refine v_putH (pc := 430) pg_X12_172_12 (fun _ => rfl) dX12_init_430 (v_is_old (v_is_old (v_is_old (v_is_old (v_is_old (v_is_old h5)))))) (fun _ => rfl) rfl ?_
    refine v_aload_n (pc := 433) dX12_init_433 rfl rfl ?_
    refine v_bipush (pc := 434) (v := nI 6) dX12_init_434 (by decide) ?_
    refine v_newa_boolean (pc := 436) ac_boolean dX12_init_436 (t_nn (by decide)) (nI_clamp (by decide)) (by decide) (by (try simp only [v_k]); omega) (Nat.le_of_ble_eq_true rfl) (Nat.le_of_ble_eq_true rfl) ?_
    refine v_putH (pc := 438) pg_X12_175_12 (fun _ => rfl) dX12_init_438 (v_is_old (v_is_old (v_is_old (v_is_old (v_is_old (v_is_old (v_is_old h5))))))) (fun _ => rfl) rfl ?_
    refine v_aload_n (pc := 441) dX12_init_441 rfl rfl ?_
    refine v_iconst (pc := 442) (v := nI 0) dX12_init_442 (by decide) ?_
    refine v_putI (pc := 443) pg_X12_178_12 (fun h => by cases h) dX12_init_443 (v_is_old (v_is_old (v_is_old (v_is_old (v_is_old (v_is_old (v_is_old h5))))))) rfl rfl ?_
    exact k7 _ _ _ _ (v_is_old (v_is_old (v_is_old (v_is_old (v_is_old (v_is_old (v_is_old h5))))))) (by show K.1 + 1 + 1 + 1 + 1 + 1 + 1 + 1 = 86; omega)
  have k5 : ∀ (K : Nat × v_TY) (I : Nat → Nat → Int32) (J : Nat → Nat → Int64) (R : Nat → Nat → Option Nat), v_is K 55 12 0 → K.1 = 77 → v_V G l yX12_init cX12_init 1 none rm_X12_init (v_Qv G (fun (M' : v_MM) => M' = (aW 15 60 60 [] (aW 15 360 59 [] (aW 14 6 58 [] (aW 14 6 57 [(0, (-1)), (1, (-1)), (2, (-1)), (3, (-1)), (4, (-1)), (5, (-1))] (aW 14 20 56 [] (pI 55 (nI 0) (aW 16 6 54 [] (aW 14 12 53 [] (aW 14 12 52 [] (aW 14 6 51 [] (aW 14 7 50 [] (aW 14 28 49 [] (aW 14 7 48 [] (aW 14 7 47 [] (aW 14 7 46 [] (pI 45 (nI 0) (pI 44 (nI 0) (pI 43 (nI 0) (pI 42 (nI 0) (pI 41 (-1) (pI 40 (nI 0) (K, I, J, R)))))))))))))))))))))))) 21 1264 339 [some (.ref 55)] [] (K, I, J, R) := by
    intro K I J R h5 hk
    refine v_aload_n (pc := 339) dX12_init_339 rfl rfl ?_
    refine v_iconst (pc := 340) (v := nI 0) dX12_init_340 (by decide) ?_
    refine v_putI (pc := 341) pg_X12_132_12 (fun h => by cases h) dX12_init_341 h5 rfl rfl ?_
    refine v_aload_n (pc := 344) dX12_init_344 rfl rfl ?_
    refine v_iconst (pc := 345) (v := -1) dX12_init_345 (by decide) ?_
    refine v_putI (pc := 346) pg_X12_136_12 (fun h => by cases h) dX12_init_346 h5 rfl rfl ?_
    refine v_aload_n (pc := 349) dX12_init_349 rfl rfl ?_
    refine v_iconst (pc := 350) (v := nI 0) dX12_init_350 (by decide) ?_
    refine v_putI (pc := 351) pg_X12_139_12 (fun h => by cases h) dX12_init_351 h5 rfl rfl ?_
    refine v_aload_n (pc := 354) dX12_init_354 rfl rfl ?_
    refine v_iconst (pc := 355) (v := nI 0) dX12_init_355 (by decide) ?_
    refine v_putI (pc := 356) pg_X12_142_12 (fun h => by cases h) dX12_init_356 h5 rfl rfl ?_
    refine v_aload_n (pc := 359) dX12_init_359 rfl rfl ?_
    refine v_iconst (pc := 360) (v := nI 0) dX12_init_360 (by decide) ?_
    refine v_putI (pc := 361) pg_X12_145_12 (fun h => by cases h) dX12_init_361 h5 rfl rfl ?_
    refine v_aload_n (pc := 364) dX12_init_364 rfl rfl ?_
    refine v_iconst (pc := 365) (v := nI 0) dX12_init_365 (by decide) ?_
    refine v_putI (pc := 366) pg_X12_148_12 (fun h => by cases h) dX12_init_366 h5 rfl rfl ?_
    refine v_aload_n (pc := 369) dX12_init_369 rfl rfl ?_
    refine v_bipush (pc := 370) (v := nI 7) dX12_init_370 (by decide) ?_
    refine v_newa_int (pc := 372) ac_int dX12_init_372 (t_nn (by decide)) (nI_clamp (by decide)) (by decide) (by (try simp only [v_k]); omega) (Nat.le_of_ble_eq_true rfl) (Nat.le_of_ble_eq_true rfl) ?_
    refine v_putH (pc := 374) pg_X12_151_12 (fun _ => rfl) dX12_init_374 (v_is_old h5) (fun _ => rfl) rfl ?_
    refine v_aload_n (pc := 377) dX12_init_377 rfl rfl ?_
    refine v_bipush (pc := 378) (v := nI 7) dX12_init_378 (by decide) ?_
    refine v_newa_int (pc := 380) ac_int dX12_init_380 (t_nn (by decide)) (nI_clamp (by decide)) (by decide) (by (try simp only [v_k]); omega) (Nat.le_of_ble_eq_true rfl) (Nat.le_of_ble_eq_true rfl) ?_
    refine v_putH (pc := 382) pg_X12_154_12 (fun _ => rfl) dX12_init_382 (v_is_old (v_is_old h5)) (fun _ => rfl) rfl ?_
    exact k6 _ _ _ _ (v_is_old (v_is_old h5)) (by show K.1 + 1 + 1 = 79; omega)
  have k4 : ∀ (K : Nat × v_TY) (I : Nat → Nat → Int32) (J : Nat → Nat → Int64) (R : Nat → Nat → Option Nat), v_is K 55 12 0 → K.1 = 72 → v_V G l yX12_init cX12_init 1 none rm_X12_init (v_Qv G (fun (M' : v_MM) => M' = (aW 15 60 60 [] (aW 15 360 59 [] (aW 14 6 58 [] (aW 14 6 57 [(0, (-1)), (1, (-1)), (2, (-1)), (3, (-1)), (4, (-1)), (5, (-1))] (aW 14 20 56 [] (pI 55 (nI 0) (aW 16 6 54 [] (aW 14 12 53 [] (aW 14 12 52 [] (aW 14 6 51 [] (aW 14 7 50 [] (aW 14 28 49 [] (aW 14 7 48 [] (aW 14 7 47 [] (aW 14 7 46 [] (pI 45 (nI 0) (pI 44 (nI 0) (pI 43 (nI 0) (pI 42 (nI 0) (pI 41 (-1) (pI 40 (nI 0) (aW 16 6 39 [] (aW 14 12 38 [] (aW 14 12 37 [] (aW 14 6 36 [] (pI 35 (nI 0) (pI 34 (nI 0) (aW 14 5 33 [] (pI 32 (nI 0) (K, I, J, R)))))))))))))))))))))))))))))))) 16 1223 285 [some (.ref 55)] [] (K, I, J, R) := by
    intro K I J R h5 hk
    refine v_aload_n (pc := 285) dX12_init_285 rfl rfl ?_
    refine v_iconst (pc := 286) (v := nI 0) dX12_init_286 (by decide) ?_
    refine v_putI (pc := 287) pg_X12_108_12 (fun h => by cases h) dX12_init_287 h5 rfl rfl ?_
    refine v_aload_n (pc := 290) dX12_init_290 rfl rfl ?_
    refine v_iconst (pc := 291) (v := nI 5) dX12_init_291 (by decide) ?_
    refine v_newa_int (pc := 292) ac_int dX12_init_292 (t_nn (by decide)) (nI_clamp (by decide)) (by decide) (by (try simp only [v_k]); omega) (Nat.le_of_ble_eq_true rfl) (Nat.le_of_ble_eq_true rfl) ?_
    refine v_putH (pc := 294) pg_X12_111_12 (fun _ => rfl) dX12_init_294 (v_is_old h5) (fun _ => rfl) rfl ?_
    refine v_aload_n (pc := 297) dX12_init_297 rfl rfl ?_
    refine v_iconst (pc := 298) (v := nI 0) dX12_init_298 (by decide) ?_
    refine v_putI (pc := 299) pg_X12_114_12 (fun h => by cases h) dX12_init_299 (v_is_old h5) rfl rfl ?_
    refine v_aload_n (pc := 302) dX12_init_302 rfl rfl ?_
    refine v_iconst (pc := 303) (v := nI 0) dX12_init_303 (by decide) ?_
    refine v_putI (pc := 304) pg_X12_117_12 (fun h => by cases h) dX12_init_304 (v_is_old h5) rfl rfl ?_
    refine v_aload_n (pc := 307) dX12_init_307 rfl rfl ?_
    refine v_bipush (pc := 308) (v := nI 6) dX12_init_308 (by decide) ?_
    refine v_newa_int (pc := 310) ac_int dX12_init_310 (t_nn (by decide)) (nI_clamp (by decide)) (by decide) (by (try simp only [v_k]); omega) (Nat.le_of_ble_eq_true rfl) (Nat.le_of_ble_eq_true rfl) ?_
    refine v_putH (pc := 312) pg_X12_120_12 (fun _ => rfl) dX12_init_312 (v_is_old (v_is_old h5)) (fun _ => rfl) rfl ?_
    refine v_aload_n (pc := 315) dX12_init_315 rfl rfl ?_
    refine v_bipush (pc := 316) (v := nI 12) dX12_init_316 (by decide) ?_
    refine v_newa_int (pc := 318) ac_int dX12_init_318 (t_nn (by decide)) (nI_clamp (by decide)) (by decide) (by (try simp only [v_k]); omega) (Nat.le_of_ble_eq_true rfl) (Nat.le_of_ble_eq_true rfl) ?_
    refine v_putH (pc := 320) pg_X12_123_12 (fun _ => rfl) dX12_init_320 (v_is_old (v_is_old (v_is_old h5))) (fun _ => rfl) rfl ?_
    refine v_aload_n (pc := 323) dX12_init_323 rfl rfl ?_
    refine v_bipush (pc := 324) (v := nI 12) dX12_init_324 (by decide) ?_
    refine v_newa_int (pc := 326) ac_int dX12_init_326 (t_nn (by decide)) (nI_clamp (by decide)) (by decide) (by (try simp only [v_k]); omega) (Nat.le_of_ble_eq_true rfl) (Nat.le_of_ble_eq_true rfl) ?_
    refine v_putH (pc := 328) pg_X12_126_12 (fun _ => rfl) dX12_init_328 (v_is_old (v_is_old (v_is_old (v_is_old h5)))) (fun _ => rfl) rfl ?_
    refine v_aload_n (pc := 331) dX12_init_331 rfl rfl ?_
    refine v_bipush (pc := 332) (v := nI 6) dX12_init_332 (by decide) ?_
    refine v_newa_boolean (pc := 334) ac_boolean dX12_init_334 (t_nn (by decide)) (nI_clamp (by decide)) (by decide) (by (try simp only [v_k]); omega) (Nat.le_of_ble_eq_true rfl) (Nat.le_of_ble_eq_true rfl) ?_
    refine v_putH (pc := 336) pg_X12_129_12 (fun _ => rfl) dX12_init_336 (v_is_old (v_is_old (v_is_old (v_is_old (v_is_old h5))))) (fun _ => rfl) rfl ?_
    exact k5 _ _ _ _ (v_is_old (v_is_old (v_is_old (v_is_old (v_is_old h5))))) (by show K.1 + 1 + 1 + 1 + 1 + 1 = 77; omega)
  have k3 : ∀ (K : Nat × v_TY) (I : Nat → Nat → Int32) (J : Nat → Nat → Int64) (R : Nat → Nat → Option Nat), v_is K 55 12 0 → K.1 = 69 → v_V G l yX12_init cX12_init 1 none rm_X12_init (v_Qv G (fun (M' : v_MM) => M' = (aW 15 60 60 [] (aW 15 360 59 [] (aW 14 6 58 [] (aW 14 6 57 [(0, (-1)), (1, (-1)), (2, (-1)), (3, (-1)), (4, (-1)), (5, (-1))] (aW 14 20 56 [] (pI 55 (nI 0) (aW 16 6 54 [] (aW 14 12 53 [] (aW 14 12 52 [] (aW 14 6 51 [] (aW 14 7 50 [] (aW 14 28 49 [] (aW 14 7 48 [] (aW 14 7 47 [] (aW 14 7 46 [] (pI 45 (nI 0) (pI 44 (nI 0) (pI 43 (nI 0) (pI 42 (nI 0) (pI 41 (-1) (pI 40 (nI 0) (aW 16 6 39 [] (aW 14 12 38 [] (aW 14 12 37 [] (aW 14 6 36 [] (pI 35 (nI 0) (pI 34 (nI 0) (aW 14 5 33 [] (pI 32 (nI 0) (pI 31 (nI 0) (pI 30 (-1) (pI 29 (nI 0) (aW 14 7 28 [] (pI 27 (nI 0) (pI 26 (nI 0) (aW 16 100 25 [] (aW 14 13 24 [(0, (nI 119)), (1, (nI 97)), (2, (nI 110)), (3, (nI 116)), (4, (nI 109)), (5, (nI 97)), (6, (nI 107)), (7, (nI 101)), (8, (nI 98)), (9, (nI 114)), (10, (nI 101)), (11, (nI 97)), (12, (nI 107))] (K, I, J, R)))))))))))))))))))))))))))))))))))))))) 13 1103 164 [some (.ref 55)] [] (K, I, J, R) := by
    intro K I J R h5 hk
    refine v_aload_n (pc := 164) dX12_init_164 rfl rfl ?_
    refine v_bipush (pc := 165) (v := nI 13) dX12_init_165 (by decide) ?_
    refine v_newa_int (pc := 167) ac_int dX12_init_167 (t_nn (by decide)) (nI_clamp (by decide)) (by decide) (by (try simp only [v_k]); omega) (Nat.le_of_ble_eq_true rfl) (Nat.le_of_ble_eq_true rfl) ?_
    refine v_dup (pc := 169) dX12_init_169 rfl ?_
    refine v_iconst (pc := 170) (v := nI 0) dX12_init_170 (by decide) ?_
    refine v_bipush (pc := 171) (v := nI 119) dX12_init_171 (by decide) ?_
    refine v_iastoreN (pc := 173) dX12_init_173 v_is_new ⟨by omega, by omega⟩ ?_
    refine v_dup (pc := 174) dX12_init_174 rfl ?_
    refine v_iconst (pc := 175) (v := nI 1) dX12_init_175 (by decide) ?_
    refine v_bipush (pc := 176) (v := nI 97) dX12_init_176 (by decide) ?_
    refine v_iastoreN (pc := 178) dX12_init_178 v_is_new ⟨by omega, by omega⟩ ?_
    refine v_dup (pc := 179) dX12_init_179 rfl ?_
    refine v_iconst (pc := 180) (v := nI 2) dX12_init_180 (by decide) ?_
    refine v_bipush (pc := 181) (v := nI 110) dX12_init_181 (by decide) ?_
    refine v_iastoreN (pc := 183) dX12_init_183 v_is_new ⟨by omega, by omega⟩ ?_
    refine v_dup (pc := 184) dX12_init_184 rfl ?_
    refine v_iconst (pc := 185) (v := nI 3) dX12_init_185 (by decide) ?_
    refine v_bipush (pc := 186) (v := nI 116) dX12_init_186 (by decide) ?_
    refine v_iastoreN (pc := 188) dX12_init_188 v_is_new ⟨by omega, by omega⟩ ?_
    refine v_dup (pc := 189) dX12_init_189 rfl ?_
    refine v_iconst (pc := 190) (v := nI 4) dX12_init_190 (by decide) ?_
    refine v_bipush (pc := 191) (v := nI 109) dX12_init_191 (by decide) ?_
    refine v_iastoreN (pc := 193) dX12_init_193 v_is_new ⟨by omega, by omega⟩ ?_
    refine v_dup (pc := 194) dX12_init_194 rfl ?_
    refine v_iconst (pc := 195) (v := nI 5) dX12_init_195 (by decide) ?_
    refine v_bipush (pc := 196) (v := nI 97) dX12_init_196 (by decide) ?_
    refine v_iastoreN (pc := 198) dX12_init_198 v_is_new ⟨by omega, by omega⟩ ?_
    refine v_dup (pc := 199) dX12_init_199 rfl ?_
    refine v_bipush (pc := 200) (v := nI 6) dX12_init_200 (by decide) ?_
    refine v_bipush (pc := 202) (v := nI 107) dX12_init_202 (by decide) ?_
    refine v_iastoreN (pc := 204) dX12_init_204 v_is_new ⟨by omega, by omega⟩ ?_
    refine v_dup (pc := 205) dX12_init_205 rfl ?_
    refine v_bipush (pc := 206) (v := nI 7) dX12_init_206 (by decide) ?_
    refine v_bipush (pc := 208) (v := nI 101) dX12_init_208 (by decide) ?_
    refine v_iastoreN (pc := 210) dX12_init_210 v_is_new ⟨by omega, by omega⟩ ?_
    refine v_dup (pc := 211) dX12_init_211 rfl ?_
    refine v_bipush (pc := 212) (v := nI 8) dX12_init_212 (by decide) ?_
    refine v_bipush (pc := 214) (v := nI 98) dX12_init_214 (by decide) ?_
    refine v_iastoreN (pc := 216) dX12_init_216 v_is_new ⟨by omega, by omega⟩ ?_
    refine v_dup (pc := 217) dX12_init_217 rfl ?_
    refine v_bipush (pc := 218) (v := nI 9) dX12_init_218 (by decide) ?_
    refine v_bipush (pc := 220) (v := nI 114) dX12_init_220 (by decide) ?_
    refine v_iastoreN (pc := 222) dX12_init_222 v_is_new ⟨by omega, by omega⟩ ?_
    refine v_dup (pc := 223) dX12_init_223 rfl ?_
    refine v_bipush (pc := 224) (v := nI 10) dX12_init_224 (by decide) ?_
    refine v_bipush (pc := 226) (v := nI 101) dX12_init_226 (by decide) ?_
    refine v_iastoreN (pc := 228) dX12_init_228 v_is_new ⟨by omega, by omega⟩ ?_
    refine v_dup (pc := 229) dX12_init_229 rfl ?_
    refine v_bipush (pc := 230) (v := nI 11) dX12_init_230 (by decide) ?_
    refine v_bipush (pc := 232) (v := nI 97) dX12_init_232 (by decide) ?_
    refine v_iastoreN (pc := 234) dX12_init_234 v_is_new ⟨by omega, by omega⟩ ?_
    refine v_dup (pc := 235) dX12_init_235 rfl ?_
    refine v_bipush (pc := 236) (v := nI 12) dX12_init_236 (by decide) ?_
    refine v_bipush (pc := 238) (v := nI 107) dX12_init_238 (by decide) ?_
    refine v_iastoreN (pc := 240) dX12_init_240 v_is_new ⟨by omega, by omega⟩ ?_
    refine v_putH (pc := 241) pg_X12_83_12 (fun _ => rfl) dX12_init_241 (v_is_old h5) (fun _ => rfl) rfl ?_
    refine v_aload_n (pc := 244) dX12_init_244 rfl rfl ?_
    refine v_bipush (pc := 245) (v := nI 100) dX12_init_245 (by decide) ?_
    refine v_newa_boolean (pc := 247) ac_boolean dX12_init_247 (t_nn (by decide)) (nI_clamp (by decide)) (by decide) (by (try simp only [v_k]); omega) (Nat.le_of_ble_eq_true rfl) (Nat.le_of_ble_eq_true rfl) ?_
    refine v_putH (pc := 249) pg_X12_86_12 (fun _ => rfl) dX12_init_249 (v_is_old (v_is_old h5)) (fun _ => rfl) rfl ?_
    refine v_aload_n (pc := 252) dX12_init_252 rfl rfl ?_
    refine v_iconst (pc := 253) (v := nI 0) dX12_init_253 (by decide) ?_
    refine v_putI (pc := 254) pg_X12_90_12 (fun h => by cases h) dX12_init_254 (v_is_old (v_is_old h5)) rfl rfl ?_
    refine v_aload_n (pc := 257) dX12_init_257 rfl rfl ?_
    refine v_iconst (pc := 258) (v := nI 0) dX12_init_258 (by decide) ?_
    refine v_putI (pc := 259) pg_X12_93_12 (fun h => by cases h) dX12_init_259 (v_is_old (v_is_old h5)) rfl rfl ?_
    refine v_aload_n (pc := 262) dX12_init_262 rfl rfl ?_
    refine v_bipush (pc := 263) (v := nI 7) dX12_init_263 (by decide) ?_
    refine v_newa_int (pc := 265) ac_int dX12_init_265 (t_nn (by decide)) (nI_clamp (by decide)) (by decide) (by (try simp only [v_k]); omega) (Nat.le_of_ble_eq_true rfl) (Nat.le_of_ble_eq_true rfl) ?_
    refine v_putH (pc := 267) pg_X12_96_12 (fun _ => rfl) dX12_init_267 (v_is_old (v_is_old (v_is_old h5))) (fun _ => rfl) rfl ?_
    refine v_aload_n (pc := 270) dX12_init_270 rfl rfl ?_
    refine v_iconst (pc := 271) (v := nI 0) dX12_init_271 (by decide) ?_
    refine v_putI (pc := 272) pg_X12_99_12 (fun h => by cases h) dX12_init_272 (v_is_old (v_is_old (v_is_old h5))) rfl rfl ?_
    refine v_aload_n (pc := 275) dX12_init_275 rfl rfl ?_
    refine v_iconst (pc := 276) (v := -1) dX12_init_276 (by decide) ?_
    refine v_putI (pc := 277) pg_X12_102_12 (fun h => by cases h) dX12_init_277 (v_is_old (v_is_old (v_is_old h5))) rfl rfl ?_
    refine v_aload_n (pc := 280) dX12_init_280 rfl rfl ?_
    refine v_iconst (pc := 281) (v := nI 0) dX12_init_281 (by decide) ?_
    refine v_putI (pc := 282) pg_X12_105_12 (fun h => by cases h) dX12_init_282 (v_is_old (v_is_old (v_is_old h5))) rfl rfl ?_
    exact k4 _ _ _ _ (v_is_old (v_is_old (v_is_old h5))) (by show K.1 + 1 + 1 + 1 = 72; omega)
  have k2 : ∀ (K : Nat × v_TY) (I : Nat → Nat → Int32) (J : Nat → Nat → Int64) (R : Nat → Nat → Option Nat), v_is K 55 12 0 → K.1 = 64 → v_V G l yX12_init cX12_init 1 none rm_X12_init (v_Qv G (fun (M' : v_MM) => M' = (aW 15 60 60 [] (aW 15 360 59 [] (aW 14 6 58 [] (aW 14 6 57 [(0, (-1)), (1, (-1)), (2, (-1)), (3, (-1)), (4, (-1)), (5, (-1))] (aW 14 20 56 [] (pI 55 (nI 0) (aW 16 6 54 [] (aW 14 12 53 [] (aW 14 12 52 [] (aW 14 6 51 [] (aW 14 7 50 [] (aW 14 28 49 [] (aW 14 7 48 [] (aW 14 7 47 [] (aW 14 7 46 [] (pI 45 (nI 0) (pI 44 (nI 0) (pI 43 (nI 0) (pI 42 (nI 0) (pI 41 (-1) (pI 40 (nI 0) (aW 16 6 39 [] (aW 14 12 38 [] (aW 14 12 37 [] (aW 14 6 36 [] (pI 35 (nI 0) (pI 34 (nI 0) (aW 14 5 33 [] (pI 32 (nI 0) (pI 31 (nI 0) (pI 30 (-1) (pI 29 (nI 0) (aW 14 7 28 [] (pI 27 (nI 0) (pI 26 (nI 0) (aW 16 100 25 [] (aW 14 13 24 [(0, (nI 119)), (1, (nI 97)), (2, (nI 110)), (3, (nI 116)), (4, (nI 109)), (5, (nI 97)), (6, (nI 107)), (7, (nI 101)), (8, (nI 98)), (9, (nI 114)), (10, (nI 101)), (11, (nI 97)), (12, (nI 107))] (pI 23 (nI 0) (pI 22 (nI 0) (pI 21 (nI 0) (aW 14 101 20 [] (aW 14 600 19 [] (aW 14 60 18 [] (aW 14 60 17 [] (aW 14 60 16 [] (K, I, J, R)))))))))))))))))))))))))))))))))))))))))))))))) 8 222 108 [some (.ref 55)] [] (K, I, J, R) := by
    intro K I J R h5 hk
    refine v_aload_n (pc := 108) dX12_init_108 rfl rfl ?_
    refine v_bipush (pc := 109) (v := nI 60) dX12_init_109 (by decide) ?_
    refine v_newa_int (pc := 111) ac_int dX12_init_111 (t_nn (by decide)) (nI_clamp (by decide)) (by decide) (by (try simp only [v_k]); omega) (Nat.le_of_ble_eq_true rfl) (Nat.le_of_ble_eq_true rfl) ?_
    refine v_putH (pc := 113) pg_X12_59_12 (fun _ => rfl) dX12_init_113 (v_is_old h5) (fun _ => rfl) rfl ?_
    refine v_aload_n (pc := 116) dX12_init_116 rfl rfl ?_
    refine v_bipush (pc := 117) (v := nI 60) dX12_init_117 (by decide) ?_
    refine v_newa_int (pc := 119) ac_int dX12_init_119 (t_nn (by decide)) (nI_clamp (by decide)) (by decide) (by (try simp only [v_k]); omega) (Nat.le_of_ble_eq_true rfl) (Nat.le_of_ble_eq_true rfl) ?_
    refine v_putH (pc := 121) pg_X12_62_12 (fun _ => rfl) dX12_init_121 (v_is_old (v_is_old h5)) (fun _ => rfl) rfl ?_
    refine v_aload_n (pc := 124) dX12_init_124 rfl rfl ?_
    refine v_bipush (pc := 125) (v := nI 60) dX12_init_125 (by decide) ?_
    refine v_newa_int (pc := 127) ac_int dX12_init_127 (t_nn (by decide)) (nI_clamp (by decide)) (by decide) (by (try simp only [v_k]); omega) (Nat.le_of_ble_eq_true rfl) (Nat.le_of_ble_eq_true rfl) ?_
    refine v_putH (pc := 129) pg_X12_65_12 (fun _ => rfl) dX12_init_129 (v_is_old (v_is_old (v_is_old h5))) (fun _ => rfl) rfl ?_
    refine v_aload_n (pc := 132) dX12_init_132 rfl rfl ?_
    refine v_sipush (pc := 133) (v := nI 600) dX12_init_133 (by decide) ?_
    refine v_newa_int (pc := 136) ac_int dX12_init_136 (t_nn (by decide)) (nI_clamp (by decide)) (by decide) (by (try simp only [v_k]); omega) (Nat.le_of_ble_eq_true rfl) (Nat.le_of_ble_eq_true rfl) ?_
    refine v_putH (pc := 138) pg_X12_68_12 (fun _ => rfl) dX12_init_138 (v_is_old (v_is_old (v_is_old (v_is_old h5)))) (fun _ => rfl) rfl ?_
    refine v_aload_n (pc := 141) dX12_init_141 rfl rfl ?_
    refine v_bipush (pc := 142) (v := nI 101) dX12_init_142 (by decide) ?_
    refine v_newa_int (pc := 144) ac_int dX12_init_144 (t_nn (by decide)) (nI_clamp (by decide)) (by decide) (by (try simp only [v_k]); omega) (Nat.le_of_ble_eq_true rfl) (Nat.le_of_ble_eq_true rfl) ?_
    refine v_putH (pc := 146) pg_X12_71_12 (fun _ => rfl) dX12_init_146 (v_is_old (v_is_old (v_is_old (v_is_old (v_is_old h5))))) (fun _ => rfl) rfl ?_
    refine v_aload_n (pc := 149) dX12_init_149 rfl rfl ?_
    refine v_iconst (pc := 150) (v := nI 0) dX12_init_150 (by decide) ?_
    refine v_putI (pc := 151) pg_X12_74_12 (fun h => by cases h) dX12_init_151 (v_is_old (v_is_old (v_is_old (v_is_old (v_is_old h5))))) rfl rfl ?_
    refine v_aload_n (pc := 154) dX12_init_154 rfl rfl ?_
    refine v_iconst (pc := 155) (v := nI 0) dX12_init_155 (by decide) ?_
    refine v_putI (pc := 156) pg_X12_77_12 (fun h => by cases h) dX12_init_156 (v_is_old (v_is_old (v_is_old (v_is_old (v_is_old h5))))) rfl rfl ?_
    refine v_aload_n (pc := 159) dX12_init_159 rfl rfl ?_
    refine v_iconst (pc := 160) (v := nI 0) dX12_init_160 (by decide) ?_
    refine v_putI (pc := 161) pg_X12_80_12 (fun h => by cases h) dX12_init_161 (v_is_old (v_is_old (v_is_old (v_is_old (v_is_old h5))))) rfl rfl ?_
    exact k3 _ _ _ _ (v_is_old (v_is_old (v_is_old (v_is_old (v_is_old h5))))) (by show K.1 + 1 + 1 + 1 + 1 + 1 = 69; omega)
  have k1 : ∀ (K : Nat × v_TY) (I : Nat → Nat → Int32) (J : Nat → Nat → Int64) (R : Nat → Nat → Option Nat), v_is K 55 12 0 → K.1 = 61 → v_V G l yX12_init cX12_init 1 none rm_X12_init (v_Qv G (fun (M' : v_MM) => M' = (aW 15 60 60 [] (aW 15 360 59 [] (aW 14 6 58 [] (aW 14 6 57 [(0, (-1)), (1, (-1)), (2, (-1)), (3, (-1)), (4, (-1)), (5, (-1))] (aW 14 20 56 [] (pI 55 (nI 0) (aW 16 6 54 [] (aW 14 12 53 [] (aW 14 12 52 [] (aW 14 6 51 [] (aW 14 7 50 [] (aW 14 28 49 [] (aW 14 7 48 [] (aW 14 7 47 [] (aW 14 7 46 [] (pI 45 (nI 0) (pI 44 (nI 0) (pI 43 (nI 0) (pI 42 (nI 0) (pI 41 (-1) (pI 40 (nI 0) (aW 16 6 39 [] (aW 14 12 38 [] (aW 14 12 37 [] (aW 14 6 36 [] (pI 35 (nI 0) (pI 34 (nI 0) (aW 14 5 33 [] (pI 32 (nI 0) (pI 31 (nI 0) (pI 30 (-1) (pI 29 (nI 0) (aW 14 7 28 [] (pI 27 (nI 0) (pI 26 (nI 0) (aW 16 100 25 [] (aW 14 13 24 [(0, (nI 119)), (1, (nI 97)), (2, (nI 110)), (3, (nI 116)), (4, (nI 109)), (5, (nI 97)), (6, (nI 107)), (7, (nI 101)), (8, (nI 98)), (9, (nI 114)), (10, (nI 101)), (11, (nI 97)), (12, (nI 107))] (pI 23 (nI 0) (pI 22 (nI 0) (pI 21 (nI 0) (aW 14 101 20 [] (aW 14 600 19 [] (aW 14 60 18 [] (aW 14 60 17 [] (aW 14 60 16 [] (aW 14 60 15 [] (aW 14 6 14 [] (aW 14 100 13 [] (pI 12 (nI 0) (pI 11 (nI 0) (pI 10 (nI 0) (pI 9 (-1) (pI 8 (nI 0) (K, I, J, R)))))))))))))))))))))))))))))))))))))))))))))))))))))))) 5 56 59 [some (.ref 55)] [] (K, I, J, R) := by
    intro K I J R h5 hk
    refine v_aload_n (pc := 59) dX12_init_59 rfl rfl ?_
    refine v_iconst (pc := 60) (v := nI 0) dX12_init_60 (by decide) ?_
    refine v_putI (pc := 61) pg_X12_35_12 (fun h => by cases h) dX12_init_61 h5 rfl rfl ?_
    refine v_aload_n (pc := 64) dX12_init_64 rfl rfl ?_
    refine v_iconst (pc := 65) (v := -1) dX12_init_65 (by decide) ?_
    refine v_putI (pc := 66) pg_X12_38_12 (fun h => by cases h) dX12_init_66 h5 rfl rfl ?_
    refine v_aload_n (pc := 69) dX12_init_69 rfl rfl ?_
    refine v_iconst (pc := 70) (v := nI 0) dX12_init_70 (by decide) ?_
    refine v_putI (pc := 71) pg_X12_41_12 (fun h => by cases h) dX12_init_71 h5 rfl rfl ?_
    refine v_aload_n (pc := 74) dX12_init_74 rfl rfl ?_
    refine v_iconst (pc := 75) (v := nI 0) dX12_init_75 (by decide) ?_
    refine v_putI (pc := 76) pg_X12_44_12 (fun h => by cases h) dX12_init_76 h5 rfl rfl ?_
    refine v_aload_n (pc := 79) dX12_init_79 rfl rfl ?_
    refine v_iconst (pc := 80) (v := nI 0) dX12_init_80 (by decide) ?_
    refine v_putI (pc := 81) pg_X12_47_12 (fun h => by cases h) dX12_init_81 h5 rfl rfl ?_
    refine v_aload_n (pc := 84) dX12_init_84 rfl rfl ?_
    refine v_bipush (pc := 85) (v := nI 100) dX12_init_85 (by decide) ?_
    refine v_newa_int (pc := 87) ac_int dX12_init_87 (t_nn (by decide)) (nI_clamp (by decide)) (by decide) (by (try simp only [v_k]); omega) (Nat.le_of_ble_eq_true rfl) (Nat.le_of_ble_eq_true rfl) ?_
    refine v_putH (pc := 89) pg_X12_50_12 (fun _ => rfl) dX12_init_89 (v_is_old h5) (fun _ => rfl) rfl ?_
    refine v_aload_n (pc := 92) dX12_init_92 rfl rfl ?_
    refine v_bipush (pc := 93) (v := nI 6) dX12_init_93 (by decide) ?_
    refine v_newa_int (pc := 95) ac_int dX12_init_95 (t_nn (by decide)) (nI_clamp (by decide)) (by decide) (by (try simp only [v_k]); omega) (Nat.le_of_ble_eq_true rfl) (Nat.le_of_ble_eq_true rfl) ?_
    refine v_putH (pc := 97) pg_X12_53_12 (fun _ => rfl) dX12_init_97 (v_is_old (v_is_old h5)) (fun _ => rfl) rfl ?_
    refine v_aload_n (pc := 100) dX12_init_100 rfl rfl ?_
    refine v_bipush (pc := 101) (v := nI 60) dX12_init_101 (by decide) ?_
    refine v_newa_int (pc := 103) ac_int dX12_init_103 (t_nn (by decide)) (nI_clamp (by decide)) (by decide) (by (try simp only [v_k]); omega) (Nat.le_of_ble_eq_true rfl) (Nat.le_of_ble_eq_true rfl) ?_
    refine v_putH (pc := 105) pg_X12_56_12 (fun _ => rfl) dX12_init_105 (v_is_old (v_is_old (v_is_old h5))) (fun _ => rfl) rfl ?_
    exact k2 _ _ _ _ (v_is_old (v_is_old (v_is_old h5))) (by show K.1 + 1 + 1 + 1 = 64; omega)
  have k0 : ∀ (K : Nat × v_TY) (I : Nat → Nat → Int32) (J : Nat → Nat → Int64) (R : Nat → Nat → Option Nat), v_is K 55 12 0 → K.1 = 56 → v_V G l yX12_init cX12_init 1 none rm_X12_init (v_Qv G (fun (M' : v_MM) => M' = (aW 15 60 60 [] (aW 15 360 59 [] (aW 14 6 58 [] (aW 14 6 57 [(0, (-1)), (1, (-1)), (2, (-1)), (3, (-1)), (4, (-1)), (5, (-1))] (aW 14 20 56 [] (pI 55 (nI 0) (aW 16 6 54 [] (aW 14 12 53 [] (aW 14 12 52 [] (aW 14 6 51 [] (aW 14 7 50 [] (aW 14 28 49 [] (aW 14 7 48 [] (aW 14 7 47 [] (aW 14 7 46 [] (pI 45 (nI 0) (pI 44 (nI 0) (pI 43 (nI 0) (pI 42 (nI 0) (pI 41 (-1) (pI 40 (nI 0) (aW 16 6 39 [] (aW 14 12 38 [] (aW 14 12 37 [] (aW 14 6 36 [] (pI 35 (nI 0) (pI 34 (nI 0) (aW 14 5 33 [] (pI 32 (nI 0) (pI 31 (nI 0) (pI 30 (-1) (pI 29 (nI 0) (aW 14 7 28 [] (pI 27 (nI 0) (pI 26 (nI 0) (aW 16 100 25 [] (aW 14 13 24 [(0, (nI 119)), (1, (nI 97)), (2, (nI 110)), (3, (nI 116)), (4, (nI 109)), (5, (nI 97)), (6, (nI 107)), (7, (nI 101)), (8, (nI 98)), (9, (nI 114)), (10, (nI 101)), (11, (nI 97)), (12, (nI 107))] (pI 23 (nI 0) (pI 22 (nI 0) (pI 21 (nI 0) (aW 14 101 20 [] (aW 14 600 19 [] (aW 14 60 18 [] (aW 14 60 17 [] (aW 14 60 16 [] (aW 14 60 15 [] (aW 14 6 14 [] (aW 14 100 13 [] (pI 12 (nI 0) (pI 11 (nI 0) (pI 10 (nI 0) (pI 9 (-1) (pI 8 (nI 0) (aW 14 7 7 [] (aW 14 28 6 [] (aW 14 7 5 [] (aW 14 7 4 [] (aW 14 7 3 [] (pI 2 (-1) (pI 1 (nI 0) (pI 0 (nI 0) (K, I, J, R)))))))))))))))))))))))))))))))))))))))))))))))))))))))))))))))) 0 0 4 [some (.ref 55)] [] (K, I, J, R) := by
    intro K I J R h5 hk
    refine v_aload_n (pc := 4) dX12_init_4 rfl rfl ?_
    refine v_iconst (pc := 5) (v := nI 0) dX12_init_5 (by decide) ?_
    refine v_putI (pc := 6) pg_X12_7_12 (fun h => by cases h) dX12_init_6 h5 rfl rfl ?_
    refine v_aload_n (pc := 9) dX12_init_9 rfl rfl ?_
    refine v_iconst (pc := 10) (v := nI 0) dX12_init_10 (by decide) ?_
    refine v_putI (pc := 11) pg_X12_13_12 (fun h => by cases h) dX12_init_11 h5 rfl rfl ?_
    refine v_aload_n (pc := 14) dX12_init_14 rfl rfl ?_
    refine v_iconst (pc := 15) (v := -1) dX12_init_15 (by decide) ?_
    refine v_putI (pc := 16) pg_X12_16_12 (fun h => by cases h) dX12_init_16 h5 rfl rfl ?_
    refine v_aload_n (pc := 19) dX12_init_19 rfl rfl ?_
    refine v_bipush (pc := 20) (v := nI 7) dX12_init_20 (by decide) ?_
    refine v_newa_int (pc := 22) ac_int dX12_init_22 (t_nn (by decide)) (nI_clamp (by decide)) (by decide) (by (try simp only [v_k]); omega) (Nat.le_of_ble_eq_true rfl) (Nat.le_of_ble_eq_true rfl) ?_
    refine v_putH (pc := 24) pg_X12_19_12 (fun _ => rfl) dX12_init_24 (v_is_old h5) (fun _ => rfl) rfl ?_
    refine v_aload_n (pc := 27) dX12_init_27 rfl rfl ?_
    refine v_bipush (pc := 28) (v := nI 7) dX12_init_28 (by decide) ?_
    refine v_newa_int (pc := 30) ac_int dX12_init_30 (t_nn (by decide)) (nI_clamp (by decide)) (by decide) (by (try simp only [v_k]); omega) (Nat.le_of_ble_eq_true rfl) (Nat.le_of_ble_eq_true rfl) ?_
    refine v_putH (pc := 32) pg_X12_23_12 (fun _ => rfl) dX12_init_32 (v_is_old (v_is_old h5)) (fun _ => rfl) rfl ?_
    refine v_aload_n (pc := 35) dX12_init_35 rfl rfl ?_
    refine v_bipush (pc := 36) (v := nI 7) dX12_init_36 (by decide) ?_
    refine v_newa_int (pc := 38) ac_int dX12_init_38 (t_nn (by decide)) (nI_clamp (by decide)) (by decide) (by (try simp only [v_k]); omega) (Nat.le_of_ble_eq_true rfl) (Nat.le_of_ble_eq_true rfl) ?_
    refine v_putH (pc := 40) pg_X12_26_12 (fun _ => rfl) dX12_init_40 (v_is_old (v_is_old (v_is_old h5))) (fun _ => rfl) rfl ?_
    refine v_aload_n (pc := 43) dX12_init_43 rfl rfl ?_
    refine v_bipush (pc := 44) (v := nI 28) dX12_init_44 (by decide) ?_
    refine v_newa_int (pc := 46) ac_int dX12_init_46 (t_nn (by decide)) (nI_clamp (by decide)) (by decide) (by (try simp only [v_k]); omega) (Nat.le_of_ble_eq_true rfl) (Nat.le_of_ble_eq_true rfl) ?_
    refine v_putH (pc := 48) pg_X12_29_12 (fun _ => rfl) dX12_init_48 (v_is_old (v_is_old (v_is_old (v_is_old h5)))) (fun _ => rfl) rfl ?_
    refine v_aload_n (pc := 51) dX12_init_51 rfl rfl ?_
    refine v_bipush (pc := 52) (v := nI 7) dX12_init_52 (by decide) ?_
    refine v_newa_int (pc := 54) ac_int dX12_init_54 (t_nn (by decide)) (nI_clamp (by decide)) (by decide) (by (try simp only [v_k]); omega) (Nat.le_of_ble_eq_true rfl) (Nat.le_of_ble_eq_true rfl) ?_
    refine v_putH (pc := 56) pg_X12_32_12 (fun _ => rfl) dX12_init_56 (v_is_old (v_is_old (v_is_old (v_is_old (v_is_old h5))))) (fun _ => rfl) rfl ?_
    exact k1 _ _ _ _ (v_is_old (v_is_old (v_is_old (v_is_old (v_is_old h5))))) (by show K.1 + 1 + 1 + 1 + 1 + 1 = 61; omega)
  exact k0 _ _ _ _ h5 hk
