/-! ===== the law, call by call ===== -/
set_option maxHeartbeats 4000000 in
set_option maxRecDepth 100000 in
theorem law_clear {p : Program} {l : Launch} {e : Env} {s : State} {m : MethodId} {below : List Frame} {meth : Method} {c : Code} {D : va_G} {E : Nat → Nat} {b L : Nat} {xs : Nat → Int32} (X : Cx p s m #[Value.ref b] meth c cL_law 4 wsL_law RL D E (fun q => s.heap.size ≤ q)) (hX : va_X b L xs s s.heap) (hbl : b < s.heap.size) (hbA : ¬ (fun q : Nat => s.heap.size ≤ q) b) (hL : L ≤ 3072) {i : Int} (h0 : 0 ≤ i) (hi : i + 6 ≤ L) {q r : Nat → Nat} {σ τ : St} (h : Bth σ τ) (k : ∀ σ' τ', Bth σ' τ' → JG p l e room_1 s m #[Value.ref b] below meth c D (fun q => s.heap.size ≤ q) 4 (lw_Z below #[Value.ref b] s) 600000 7302250 1043 [(0, .ref b), (1, .ref (q 0)), (2, .ref (r 0)), (3, .int (jI i))] [] (CW E q τ' ++ MW E r σ')) : JG p l e room_1 s m #[Value.ref b] below meth c D (fun q => s.heap.size ≤ q) 4 (lw_Z below #[Value.ref b] s) 600000 7302250 362 [(0, .ref b), (1, .ref (q 0)), (2, .ref (r 0)), (3, .int (jI i))] [] (CW E q τ ++ MW E r σ) := by
  refine n_aload_n (pc' := 363) X dL_law_362 rfl 1 rfl rfl ?_
  refine n_callI (pc' := 366) (S := St) (As := []) (rest := []) X dL_law_363 rfl (kX5_clear l D E q τ  (h.1.1)) (cwV 0 X.1.2.2.2.2 gL_law_X5_clear rfl rfl rfl (by decide +kernel) ⟨Nat.le_of_ble_eq_true rfl, Nat.le_of_ble_eq_true rfl⟩) 0 rfl rfl rfl rfl (Nat.le_of_ble_eq_true rfl) ⟨Nat.le_of_ble_eq_true rfl, Nat.le_of_ble_eq_true rfl⟩ (fun rA t2 h5 => ?_)
  refine n_aload_n (pc' := 367) X dL_law_366 rfl 2 rfl rfl ?_
  refine n_swap ?_
  refine n_callI (pc' := 370) (S := St) (As := []) (rest := [.int (jI rA)]) X dL_law_367 rfl (kX6_clear l D E r σ  (h.wf)) (cwV 0 X.1.2.2.2.2 gL_law_X6_clear rfl rfl rfl (by decide +kernel) ⟨Nat.le_of_ble_eq_true rfl, Nat.le_of_ble_eq_true rfl⟩) 0 rfl rfl rfl rfl (Nat.le_of_ble_eq_true rfl) ⟨Nat.le_of_ble_eq_true rfl, Nat.le_of_ble_eq_true rfl⟩ (fun rB s2 h6 => ?_)
  refine n_swap ?_
  obtain ⟨ee, hB⟩ := pm_clear h h5 h6
  subst ee
  refine n_icmp_same (tgt := 1043) X dL_law_370 (by decide) ?_
  exact k _ _ hB
set_option maxHeartbeats 4000000 in
set_option maxRecDepth 100000 in
theorem law_ticks {p : Program} {l : Launch} {e : Env} {s : State} {m : MethodId} {below : List Frame} {meth : Method} {c : Code} {D : va_G} {E : Nat → Nat} {b L : Nat} {xs : Nat → Int32} (X : Cx p s m #[Value.ref b] meth c cL_law 4 wsL_law RL D E (fun q => s.heap.size ≤ q)) (hX : va_X b L xs s s.heap) (hbl : b < s.heap.size) (hbA : ¬ (fun q : Nat => s.heap.size ≤ q) b) (hL : L ≤ 3072) {i : Int} (h0 : 0 ≤ i) (hi : i + 6 ≤ L) {q r : Nat → Nat} {σ τ : St} (h : Bth σ τ) (k : ∀ σ' τ', Bth σ' τ' → JG p l e room_1 s m #[Value.ref b] below meth c D (fun q => s.heap.size ≤ q) 4 (lw_Z below #[Value.ref b] s) 600000 7302250 1043 [(0, .ref b), (1, .ref (q 0)), (2, .ref (r 0)), (3, .int (jI i))] [] (CW E q τ' ++ MW E r σ')) : JG p l e room_1 s m #[Value.ref b] below meth c D (fun q => s.heap.size ≤ q) 4 (lw_Z below #[Value.ref b] s) 600000 7302250 375 [(0, .ref b), (1, .ref (q 0)), (2, .ref (r 0)), (3, .int (jI i))] [] (CW E q τ ++ MW E r σ) := by
  refine n_aload_n (pc' := 376) X dL_law_375 rfl 1 rfl rfl ?_
  refine n_aload_n (pc' := 377) X dL_law_376 rfl 0 rfl rfl ?_
  refine n_iload_n (pc' := 378) X dL_law_377 rfl 3 rfl rfl ?_
  refine n_iconst (pc' := 379) X dL_law_378 rfl ?_
  refine n_iadd (pc' := 380) X dL_law_379 rfl ?_
  refine n_sld (pc' := 381) X hX hbl hbA dL_law_380 rfl hL (by omega) ?_
  refine n_callI (pc' := 384) (S := St) (As := [.int (jI (sx xs (i + 1)))]) (rest := []) X dL_law_381 rfl (kX5_ticks l D E q τ (sx xs (i + 1)) (sx_r _ _)) (cwV 1 X.1.2.2.2.2 gL_law_X5_ticks rfl rfl rfl (by decide +kernel) ⟨Nat.le_of_ble_eq_true rfl, Nat.le_of_ble_eq_true rfl⟩) 0 rfl rfl rfl rfl (Nat.le_of_ble_eq_true rfl) ⟨Nat.le_of_ble_eq_true rfl, Nat.le_of_ble_eq_true rfl⟩ (fun rA t2 h5 => ?_)
  refine n_aload_n (pc' := 385) X dL_law_384 rfl 2 rfl rfl ?_
  refine n_aload_n (pc' := 386) X dL_law_385 rfl 0 rfl rfl ?_
  refine n_iload_n (pc' := 387) X dL_law_386 rfl 3 rfl rfl ?_
  refine n_iconst (pc' := 388) X dL_law_387 rfl ?_
  refine n_iadd (pc' := 389) X dL_law_388 rfl ?_
  refine n_sld (pc' := 390) X hX hbl hbA dL_law_389 rfl hL (by omega) ?_
  refine n_swap ?_
  refine n_callI (pc' := 393) (S := St) (As := [.int (jI (sx xs (i + 1)))]) (rest := [.int (jI rA)]) X dL_law_390 rfl (kX6_ticks l D E r σ (sx xs (i + 1)) (h.wf) (sx_r _ _)) (cwV 1 X.1.2.2.2.2 gL_law_X6_ticks rfl rfl rfl (by decide +kernel) ⟨Nat.le_of_ble_eq_true rfl, Nat.le_of_ble_eq_true rfl⟩) 0 rfl rfl rfl rfl (Nat.le_of_ble_eq_true rfl) ⟨Nat.le_of_ble_eq_true rfl, Nat.le_of_ble_eq_true rfl⟩ (fun rB s2 h6 => ?_)
  refine n_swap ?_
  obtain ⟨ee, hB⟩ := pm_ticks h h5 h6
  subst ee
  refine n_icmp_same (tgt := 1043) X dL_law_393 (by decide) ?_
  exact k _ _ hB
set_option maxHeartbeats 4000000 in
set_option maxRecDepth 100000 in
theorem law_ofSection {p : Program} {l : Launch} {e : Env} {s : State} {m : MethodId} {below : List Frame} {meth : Method} {c : Code} {D : va_G} {E : Nat → Nat} {b L : Nat} {xs : Nat → Int32} (X : Cx p s m #[Value.ref b] meth c cL_law 4 wsL_law RL D E (fun q => s.heap.size ≤ q)) (hX : va_X b L xs s s.heap) (hbl : b < s.heap.size) (hbA : ¬ (fun q : Nat => s.heap.size ≤ q) b) (hL : L ≤ 3072) {i : Int} (h0 : 0 ≤ i) (hi : i + 6 ≤ L) {q r : Nat → Nat} {σ τ : St} (h : Bth σ τ) (k : ∀ σ' τ', Bth σ' τ' → JG p l e room_1 s m #[Value.ref b] below meth c D (fun q => s.heap.size ≤ q) 4 (lw_Z below #[Value.ref b] s) 600000 7302250 1043 [(0, .ref b), (1, .ref (q 0)), (2, .ref (r 0)), (3, .int (jI i))] [] (CW E q τ' ++ MW E r σ')) : JG p l e room_1 s m #[Value.ref b] below meth c D (fun q => s.heap.size ≤ q) 4 (lw_Z below #[Value.ref b] s) 600000 7302250 398 [(0, .ref b), (1, .ref (q 0)), (2, .ref (r 0)), (3, .int (jI i))] [] (CW E q τ ++ MW E r σ) := by
  refine n_aload_n (pc' := 399) X dL_law_398 rfl 1 rfl rfl ?_
  refine n_aload_n (pc' := 400) X dL_law_399 rfl 0 rfl rfl ?_
  refine n_iload_n (pc' := 401) X dL_law_400 rfl 3 rfl rfl ?_
  refine n_iconst (pc' := 402) X dL_law_401 rfl ?_
  refine n_iadd (pc' := 403) X dL_law_402 rfl ?_
  refine n_sld (pc' := 404) X hX hbl hbA dL_law_403 rfl hL (by omega) ?_
  refine n_aload_n (pc' := 405) X dL_law_404 rfl 0 rfl rfl ?_
  refine n_iload_n (pc' := 406) X dL_law_405 rfl 3 rfl rfl ?_
  refine n_iconst (pc' := 407) X dL_law_406 rfl ?_
  refine n_iadd (pc' := 408) X dL_law_407 rfl ?_
  refine n_sld (pc' := 409) X hX hbl hbA dL_law_408 rfl hL (by omega) ?_
  refine n_callI (pc' := 412) (S := St) (As := [.int (jI (sx xs (i + 1))), .int (jI (sx xs (i + 2)))]) (rest := []) X dL_law_409 rfl (kX5_ofSection l D E q τ (sx xs (i + 1)) (sx xs (i + 2)) (h.1.1) (h.1.2.1) ⟨sx_r _ _, sx_r _ _⟩) (cwV 2 X.1.2.2.2.2 gL_law_X5_ofSection rfl rfl rfl (by decide +kernel) ⟨Nat.le_of_ble_eq_true rfl, Nat.le_of_ble_eq_true rfl⟩) 0 rfl rfl rfl rfl (Nat.le_of_ble_eq_true rfl) ⟨Nat.le_of_ble_eq_true rfl, Nat.le_of_ble_eq_true rfl⟩ (fun rA t2 h5 => ?_)
  refine n_aload_n (pc' := 413) X dL_law_412 rfl 2 rfl rfl ?_
  refine n_aload_n (pc' := 414) X dL_law_413 rfl 0 rfl rfl ?_
  refine n_iload_n (pc' := 415) X dL_law_414 rfl 3 rfl rfl ?_
  refine n_iconst (pc' := 416) X dL_law_415 rfl ?_
  refine n_iadd (pc' := 417) X dL_law_416 rfl ?_
  refine n_sld (pc' := 418) X hX hbl hbA dL_law_417 rfl hL (by omega) ?_
  refine n_aload_n (pc' := 419) X dL_law_418 rfl 0 rfl rfl ?_
  refine n_iload_n (pc' := 420) X dL_law_419 rfl 3 rfl rfl ?_
  refine n_iconst (pc' := 421) X dL_law_420 rfl ?_
  refine n_iadd (pc' := 422) X dL_law_421 rfl ?_
  refine n_sld (pc' := 423) X hX hbl hbA dL_law_422 rfl hL (by omega) ?_
  refine n_swap ?_
  refine n_callI (pc' := 426) (S := St) (As := [.int (jI (sx xs (i + 1))), .int (jI (sx xs (i + 2)))]) (rest := [.int (jI rA)]) X dL_law_423 rfl (kX6_ofSection l D E r σ (sx xs (i + 1)) (sx xs (i + 2)) (h.wf) ⟨sx_r _ _, sx_r _ _⟩) (cwV 2 X.1.2.2.2.2 gL_law_X6_ofSection rfl rfl rfl (by decide +kernel) ⟨Nat.le_of_ble_eq_true rfl, Nat.le_of_ble_eq_true rfl⟩) 0 rfl rfl rfl rfl (Nat.le_of_ble_eq_true rfl) ⟨Nat.le_of_ble_eq_true rfl, Nat.le_of_ble_eq_true rfl⟩ (fun rB s2 h6 => ?_)
  refine n_swap ?_
  obtain ⟨ee, hB⟩ := pm_ofSection h h5 h6
  subst ee
  refine n_icmp_same (tgt := 1043) X dL_law_426 (by decide) ?_
  exact k _ _ hB
set_option maxHeartbeats 4000000 in
set_option maxRecDepth 100000 in
theorem law_ofTie {p : Program} {l : Launch} {e : Env} {s : State} {m : MethodId} {below : List Frame} {meth : Method} {c : Code} {D : va_G} {E : Nat → Nat} {b L : Nat} {xs : Nat → Int32} (X : Cx p s m #[Value.ref b] meth c cL_law 4 wsL_law RL D E (fun q => s.heap.size ≤ q)) (hX : va_X b L xs s s.heap) (hbl : b < s.heap.size) (hbA : ¬ (fun q : Nat => s.heap.size ≤ q) b) (hL : L ≤ 3072) {i : Int} (h0 : 0 ≤ i) (hi : i + 6 ≤ L) {q r : Nat → Nat} {σ τ : St} (h : Bth σ τ) (k : ∀ σ' τ', Bth σ' τ' → JG p l e room_1 s m #[Value.ref b] below meth c D (fun q => s.heap.size ≤ q) 4 (lw_Z below #[Value.ref b] s) 600000 7302250 1043 [(0, .ref b), (1, .ref (q 0)), (2, .ref (r 0)), (3, .int (jI i))] [] (CW E q τ' ++ MW E r σ')) : JG p l e room_1 s m #[Value.ref b] below meth c D (fun q => s.heap.size ≤ q) 4 (lw_Z below #[Value.ref b] s) 600000 7302250 431 [(0, .ref b), (1, .ref (q 0)), (2, .ref (r 0)), (3, .int (jI i))] [] (CW E q τ ++ MW E r σ) := by
  refine n_aload_n (pc' := 432) X dL_law_431 rfl 1 rfl rfl ?_
  refine n_aload_n (pc' := 433) X dL_law_432 rfl 0 rfl rfl ?_
  refine n_iload_n (pc' := 434) X dL_law_433 rfl 3 rfl rfl ?_
  refine n_iconst (pc' := 435) X dL_law_434 rfl ?_
  refine n_iadd (pc' := 436) X dL_law_435 rfl ?_
  refine n_sld (pc' := 437) X hX hbl hbA dL_law_436 rfl hL (by omega) ?_
  refine n_aload_n (pc' := 438) X dL_law_437 rfl 0 rfl rfl ?_
  refine n_iload_n (pc' := 439) X dL_law_438 rfl 3 rfl rfl ?_
  refine n_iconst (pc' := 440) X dL_law_439 rfl ?_
  refine n_iadd (pc' := 441) X dL_law_440 rfl ?_
  refine n_sld (pc' := 442) X hX hbl hbA dL_law_441 rfl hL (by omega) ?_
  refine n_callI (pc' := 445) (S := St) (As := [.int (jI (sx xs (i + 1))), .int (jI (sx xs (i + 2)))]) (rest := []) X dL_law_442 rfl (kX5_ofTie l D E q τ (sx xs (i + 1)) (sx xs (i + 2)) (h.1.1) (h.1.2.1) ⟨sx_r _ _, sx_r _ _⟩) (cwV 2 X.1.2.2.2.2 gL_law_X5_ofTie rfl rfl rfl (by decide +kernel) ⟨Nat.le_of_ble_eq_true rfl, Nat.le_of_ble_eq_true rfl⟩) 0 rfl rfl rfl rfl (Nat.le_of_ble_eq_true rfl) ⟨Nat.le_of_ble_eq_true rfl, Nat.le_of_ble_eq_true rfl⟩ (fun rA t2 h5 => ?_)
  refine n_aload_n (pc' := 446) X dL_law_445 rfl 2 rfl rfl ?_
  refine n_aload_n (pc' := 447) X dL_law_446 rfl 0 rfl rfl ?_
  refine n_iload_n (pc' := 448) X dL_law_447 rfl 3 rfl rfl ?_
  refine n_iconst (pc' := 449) X dL_law_448 rfl ?_
  refine n_iadd (pc' := 450) X dL_law_449 rfl ?_
  refine n_sld (pc' := 451) X hX hbl hbA dL_law_450 rfl hL (by omega) ?_
  refine n_aload_n (pc' := 452) X dL_law_451 rfl 0 rfl rfl ?_
  refine n_iload_n (pc' := 453) X dL_law_452 rfl 3 rfl rfl ?_
  refine n_iconst (pc' := 454) X dL_law_453 rfl ?_
  refine n_iadd (pc' := 455) X dL_law_454 rfl ?_
  refine n_sld (pc' := 456) X hX hbl hbA dL_law_455 rfl hL (by omega) ?_
  refine n_swap ?_
  refine n_callI (pc' := 459) (S := St) (As := [.int (jI (sx xs (i + 1))), .int (jI (sx xs (i + 2)))]) (rest := [.int (jI rA)]) X dL_law_456 rfl (kX6_ofTie l D E r σ (sx xs (i + 1)) (sx xs (i + 2)) (h.wf) ⟨sx_r _ _, sx_r _ _⟩) (cwV 2 X.1.2.2.2.2 gL_law_X6_ofTie rfl rfl rfl (by decide +kernel) ⟨Nat.le_of_ble_eq_true rfl, Nat.le_of_ble_eq_true rfl⟩) 0 rfl rfl rfl rfl (Nat.le_of_ble_eq_true rfl) ⟨Nat.le_of_ble_eq_true rfl, Nat.le_of_ble_eq_true rfl⟩ (fun rB s2 h6 => ?_)
  refine n_swap ?_
  obtain ⟨ee, hB⟩ := pm_ofTie h h5 h6
  subst ee
  refine n_icmp_same (tgt := 1043) X dL_law_459 (by decide) ?_
  exact k _ _ hB
set_option maxHeartbeats 4000000 in
set_option maxRecDepth 100000 in
theorem law_tempo {p : Program} {l : Launch} {e : Env} {s : State} {m : MethodId} {below : List Frame} {meth : Method} {c : Code} {D : va_G} {E : Nat → Nat} {b L : Nat} {xs : Nat → Int32} (X : Cx p s m #[Value.ref b] meth c cL_law 4 wsL_law RL D E (fun q => s.heap.size ≤ q)) (hX : va_X b L xs s s.heap) (hbl : b < s.heap.size) (hbA : ¬ (fun q : Nat => s.heap.size ≤ q) b) (hL : L ≤ 3072) {i : Int} (h0 : 0 ≤ i) (hi : i + 6 ≤ L) {q r : Nat → Nat} {σ τ : St} (h : Bth σ τ) (k : ∀ σ' τ', Bth σ' τ' → JG p l e room_1 s m #[Value.ref b] below meth c D (fun q => s.heap.size ≤ q) 4 (lw_Z below #[Value.ref b] s) 600000 7302250 1043 [(0, .ref b), (1, .ref (q 0)), (2, .ref (r 0)), (3, .int (jI i))] [] (CW E q τ' ++ MW E r σ')) : JG p l e room_1 s m #[Value.ref b] below meth c D (fun q => s.heap.size ≤ q) 4 (lw_Z below #[Value.ref b] s) 600000 7302250 464 [(0, .ref b), (1, .ref (q 0)), (2, .ref (r 0)), (3, .int (jI i))] [] (CW E q τ ++ MW E r σ) := by
  refine n_aload_n (pc' := 465) X dL_law_464 rfl 1 rfl rfl ?_
  refine n_aload_n (pc' := 466) X dL_law_465 rfl 0 rfl rfl ?_
  refine n_iload_n (pc' := 467) X dL_law_466 rfl 3 rfl rfl ?_
  refine n_iconst (pc' := 468) X dL_law_467 rfl ?_
  refine n_iadd (pc' := 469) X dL_law_468 rfl ?_
  refine n_sld (pc' := 470) X hX hbl hbA dL_law_469 rfl hL (by omega) ?_
  refine n_aload_n (pc' := 471) X dL_law_470 rfl 0 rfl rfl ?_
  refine n_iload_n (pc' := 472) X dL_law_471 rfl 3 rfl rfl ?_
  refine n_iconst (pc' := 473) X dL_law_472 rfl ?_
  refine n_iadd (pc' := 474) X dL_law_473 rfl ?_
  refine n_sld (pc' := 475) X hX hbl hbA dL_law_474 rfl hL (by omega) ?_
  refine n_callL (pc' := 478) (S := St) (As := [.int (jI (sx xs (i + 1))), .int (jI (sx xs (i + 2)))]) (rest := []) X dL_law_475 rfl (kX5_tempo l D E q τ (sx xs (i + 1)) (sx xs (i + 2)) (h.1.1) (h.1.2.1) ⟨sx_r _ _, sx_r _ _⟩) (cwV 2 X.1.2.2.2.2 gL_law_X5_tempo rfl rfl rfl (by decide +kernel) ⟨Nat.le_of_ble_eq_true rfl, Nat.le_of_ble_eq_true rfl⟩) 0 rfl rfl rfl rfl (Nat.le_of_ble_eq_true rfl) ⟨Nat.le_of_ble_eq_true rfl, Nat.le_of_ble_eq_true rfl⟩ (fun rA t2 h5 => ?_)
  refine n_aload_n (pc' := 479) X dL_law_478 rfl 2 rfl rfl ?_
  refine n_aload_n (pc' := 480) X dL_law_479 rfl 0 rfl rfl ?_
  refine n_iload_n (pc' := 481) X dL_law_480 rfl 3 rfl rfl ?_
  refine n_iconst (pc' := 482) X dL_law_481 rfl ?_
  refine n_iadd (pc' := 483) X dL_law_482 rfl ?_
  refine n_sld (pc' := 484) X hX hbl hbA dL_law_483 rfl hL (by omega) ?_
  refine n_aload_n (pc' := 485) X dL_law_484 rfl 0 rfl rfl ?_
  refine n_iload_n (pc' := 486) X dL_law_485 rfl 3 rfl rfl ?_
  refine n_iconst (pc' := 487) X dL_law_486 rfl ?_
  refine n_iadd (pc' := 488) X dL_law_487 rfl ?_
  refine n_sld (pc' := 489) X hX hbl hbA dL_law_488 rfl hL (by omega) ?_
  refine n_swap ?_
  refine n_callL (pc' := 492) (S := St) (As := [.int (jI (sx xs (i + 1))), .int (jI (sx xs (i + 2)))]) (rest := [.long (jL rA)]) X dL_law_489 rfl (kX6_tempo l D E r σ (sx xs (i + 1)) (sx xs (i + 2)) (h.wf) ⟨sx_r _ _, sx_r _ _⟩) (cwV 2 X.1.2.2.2.2 gL_law_X6_tempo rfl rfl rfl (by decide +kernel) ⟨Nat.le_of_ble_eq_true rfl, Nat.le_of_ble_eq_true rfl⟩) 0 rfl rfl rfl rfl (Nat.le_of_ble_eq_true rfl) ⟨Nat.le_of_ble_eq_true rfl, Nat.le_of_ble_eq_true rfl⟩ (fun rB s2 h6 => ?_)
  refine n_swap ?_
  obtain ⟨ee, hB⟩ := pm_tempo h h5 h6
  subst ee
  refine n_lcmp_same (tgt := 1043) (pc1 := 493) X dL_law_492 rfl dL_law_493 (by decide) ?_
  exact k _ _ hB
set_option maxHeartbeats 4000000 in
set_option maxRecDepth 100000 in
theorem law_ratio {p : Program} {l : Launch} {e : Env} {s : State} {m : MethodId} {below : List Frame} {meth : Method} {c : Code} {D : va_G} {E : Nat → Nat} {b L : Nat} {xs : Nat → Int32} (X : Cx p s m #[Value.ref b] meth c cL_law 4 wsL_law RL D E (fun q => s.heap.size ≤ q)) (hX : va_X b L xs s s.heap) (hbl : b < s.heap.size) (hbA : ¬ (fun q : Nat => s.heap.size ≤ q) b) (hL : L ≤ 3072) {i : Int} (h0 : 0 ≤ i) (hi : i + 6 ≤ L) {q r : Nat → Nat} {σ τ : St} (h : Bth σ τ) (k : ∀ σ' τ', Bth σ' τ' → JG p l e room_1 s m #[Value.ref b] below meth c D (fun q => s.heap.size ≤ q) 4 (lw_Z below #[Value.ref b] s) 600000 7302250 1043 [(0, .ref b), (1, .ref (q 0)), (2, .ref (r 0)), (3, .int (jI i))] [] (CW E q τ' ++ MW E r σ')) : JG p l e room_1 s m #[Value.ref b] below meth c D (fun q => s.heap.size ≤ q) 4 (lw_Z below #[Value.ref b] s) 600000 7302250 498 [(0, .ref b), (1, .ref (q 0)), (2, .ref (r 0)), (3, .int (jI i))] [] (CW E q τ ++ MW E r σ) := by
  refine n_aload_n (pc' := 499) X dL_law_498 rfl 1 rfl rfl ?_
  refine n_aload_n (pc' := 500) X dL_law_499 rfl 0 rfl rfl ?_
  refine n_iload_n (pc' := 501) X dL_law_500 rfl 3 rfl rfl ?_
  refine n_iconst (pc' := 502) X dL_law_501 rfl ?_
  refine n_iadd (pc' := 503) X dL_law_502 rfl ?_
  refine n_sld (pc' := 504) X hX hbl hbA dL_law_503 rfl hL (by omega) ?_
  refine n_aload_n (pc' := 505) X dL_law_504 rfl 0 rfl rfl ?_
  refine n_iload_n (pc' := 506) X dL_law_505 rfl 3 rfl rfl ?_
  refine n_iconst (pc' := 507) X dL_law_506 rfl ?_
  refine n_iadd (pc' := 508) X dL_law_507 rfl ?_
  refine n_sld (pc' := 509) X hX hbl hbA dL_law_508 rfl hL (by omega) ?_
  refine n_aload_n (pc' := 510) X dL_law_509 rfl 0 rfl rfl ?_
  refine n_iload_n (pc' := 511) X dL_law_510 rfl 3 rfl rfl ?_
  refine n_iconst (pc' := 512) X dL_law_511 rfl ?_
  refine n_iadd (pc' := 513) X dL_law_512 rfl ?_
  refine n_sld (pc' := 514) X hX hbl hbA dL_law_513 rfl hL (by omega) ?_
  refine n_callL (pc' := 517) (S := St) (As := [.int (jI (sx xs (i + 1))), .int (jI (sx xs (i + 2))), .int (jI (sx xs (i + 3)))]) (rest := []) X dL_law_514 rfl (kX5_ratio l D E q τ (sx xs (i + 1)) (sx xs (i + 2)) (sx xs (i + 3)) (h.1.1) (h.1.2.1) ⟨sx_r _ _, sx_r _ _, sx_r _ _⟩) (cwV 3 X.1.2.2.2.2 gL_law_X5_ratio rfl rfl rfl (by decide +kernel) ⟨Nat.le_of_ble_eq_true rfl, Nat.le_of_ble_eq_true rfl⟩) 0 rfl rfl rfl rfl (Nat.le_of_ble_eq_true rfl) ⟨Nat.le_of_ble_eq_true rfl, Nat.le_of_ble_eq_true rfl⟩ (fun rA t2 h5 => ?_)
  refine n_aload_n (pc' := 518) X dL_law_517 rfl 2 rfl rfl ?_
  refine n_aload_n (pc' := 519) X dL_law_518 rfl 0 rfl rfl ?_
  refine n_iload_n (pc' := 520) X dL_law_519 rfl 3 rfl rfl ?_
  refine n_iconst (pc' := 521) X dL_law_520 rfl ?_
  refine n_iadd (pc' := 522) X dL_law_521 rfl ?_
  refine n_sld (pc' := 523) X hX hbl hbA dL_law_522 rfl hL (by omega) ?_
  refine n_aload_n (pc' := 524) X dL_law_523 rfl 0 rfl rfl ?_
  refine n_iload_n (pc' := 525) X dL_law_524 rfl 3 rfl rfl ?_
  refine n_iconst (pc' := 526) X dL_law_525 rfl ?_
  refine n_iadd (pc' := 527) X dL_law_526 rfl ?_
  refine n_sld (pc' := 528) X hX hbl hbA dL_law_527 rfl hL (by omega) ?_
  refine n_aload_n (pc' := 529) X dL_law_528 rfl 0 rfl rfl ?_
  refine n_iload_n (pc' := 530) X dL_law_529 rfl 3 rfl rfl ?_
  refine n_iconst (pc' := 531) X dL_law_530 rfl ?_
  refine n_iadd (pc' := 532) X dL_law_531 rfl ?_
  refine n_sld (pc' := 533) X hX hbl hbA dL_law_532 rfl hL (by omega) ?_
  refine n_swap ?_
  refine n_callL (pc' := 536) (S := St) (As := [.int (jI (sx xs (i + 1))), .int (jI (sx xs (i + 2))), .int (jI (sx xs (i + 3)))]) (rest := [.long (jL rA)]) X dL_law_533 rfl (kX6_ratio l D E r σ (sx xs (i + 1)) (sx xs (i + 2)) (sx xs (i + 3)) (h.wf) ⟨sx_r _ _, sx_r _ _, sx_r _ _⟩) (cwV 3 X.1.2.2.2.2 gL_law_X6_ratio rfl rfl rfl (by decide +kernel) ⟨Nat.le_of_ble_eq_true rfl, Nat.le_of_ble_eq_true rfl⟩) 0 rfl rfl rfl rfl (Nat.le_of_ble_eq_true rfl) ⟨Nat.le_of_ble_eq_true rfl, Nat.le_of_ble_eq_true rfl⟩ (fun rB s2 h6 => ?_)
  refine n_swap ?_
  obtain ⟨ee, hB⟩ := pm_ratio h h5 h6
  subst ee
  refine n_lcmp_same (tgt := 1043) (pc1 := 537) X dL_law_536 rfl dL_law_537 (by decide) ?_
  exact k _ _ hB
