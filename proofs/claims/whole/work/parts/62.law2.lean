/-! ===== the law, call by call ===== -/
set_option maxHeartbeats 4000000 in
set_option maxRecDepth 100000 in
theorem law_off {p : Program} {l : Launch} {e : Env} {s : State} {m : MethodId} {below : List Frame} {meth : Method} {c : Code} {D : va_G} {E : Nat → Nat} {b L : Nat} {xs : Nat → Int32} (X : Cx p s m #[Value.ref b] meth c cL_law 4 wsL_law RL D E (fun q => s.heap.size ≤ q)) (hX : va_X b L xs s s.heap) (hbl : b < s.heap.size) (hbA : ¬ (fun q : Nat => s.heap.size ≤ q) b) (hL : L ≤ 3072) {i : Int} (h0 : 0 ≤ i) (hi : i + 6 ≤ L) {q r : Nat → Nat} {σ τ : St} (h : Bth σ τ) (k : ∀ σ' τ', Bth σ' τ' → JG p l e room_1 s m #[Value.ref b] below meth c D (fun q => s.heap.size ≤ q) 4 (lw_Z below #[Value.ref b] s) 600000 7302250 1043 [(0, .ref b), (1, .ref (q 0)), (2, .ref (r 0)), (3, .int (jI i))] [] (CW E q τ' ++ MW E r σ')) : JG p l e room_1 s m #[Value.ref b] below meth c D (fun q => s.heap.size ≤ q) 4 (lw_Z below #[Value.ref b] s) 600000 7302250 542 [(0, .ref b), (1, .ref (q 0)), (2, .ref (r 0)), (3, .int (jI i))] [] (CW E q τ ++ MW E r σ) := by
  refine n_aload_n (pc' := 543) X dL_law_542 rfl 1 rfl rfl ?_
  refine n_aload_n (pc' := 544) X dL_law_543 rfl 0 rfl rfl ?_
  refine n_iload_n (pc' := 545) X dL_law_544 rfl 3 rfl rfl ?_
  refine n_iconst (pc' := 546) X dL_law_545 rfl ?_
  refine n_iadd (pc' := 547) X dL_law_546 rfl ?_
  refine n_sld (pc' := 548) X hX hbl hbA dL_law_547 rfl hL (by omega) ?_
  refine n_aload_n (pc' := 549) X dL_law_548 rfl 0 rfl rfl ?_
  refine n_iload_n (pc' := 550) X dL_law_549 rfl 3 rfl rfl ?_
  refine n_iconst (pc' := 551) X dL_law_550 rfl ?_
  refine n_iadd (pc' := 552) X dL_law_551 rfl ?_
  refine n_sld (pc' := 553) X hX hbl hbA dL_law_552 rfl hL (by omega) ?_
  refine n_callL (pc' := 556) (S := St) (As := [.int (jI (sx xs (i + 1))), .int (jI (sx xs (i + 2)))]) (rest := []) X dL_law_553 rfl (kX5_off l D E q τ (sx xs (i + 1)) (sx xs (i + 2)) (h.1.1) (h.1.2.1) ⟨sx_r _ _, sx_r _ _⟩) (cwV 2 X.1.2.2.2.2 gL_law_X5_off rfl rfl rfl (by decide +kernel) ⟨Nat.le_of_ble_eq_true rfl, Nat.le_of_ble_eq_true rfl⟩) 0 rfl rfl rfl rfl (Nat.le_of_ble_eq_true rfl) ⟨Nat.le_of_ble_eq_true rfl, Nat.le_of_ble_eq_true rfl⟩ (fun rA t2 h5 => ?_)
  refine n_aload_n (pc' := 557) X dL_law_556 rfl 2 rfl rfl ?_
  refine n_aload_n (pc' := 558) X dL_law_557 rfl 0 rfl rfl ?_
  refine n_iload_n (pc' := 559) X dL_law_558 rfl 3 rfl rfl ?_
  refine n_iconst (pc' := 560) X dL_law_559 rfl ?_
  refine n_iadd (pc' := 561) X dL_law_560 rfl ?_
  refine n_sld (pc' := 562) X hX hbl hbA dL_law_561 rfl hL (by omega) ?_
  refine n_aload_n (pc' := 563) X dL_law_562 rfl 0 rfl rfl ?_
  refine n_iload_n (pc' := 564) X dL_law_563 rfl 3 rfl rfl ?_
  refine n_iconst (pc' := 565) X dL_law_564 rfl ?_
  refine n_iadd (pc' := 566) X dL_law_565 rfl ?_
  refine n_sld (pc' := 567) X hX hbl hbA dL_law_566 rfl hL (by omega) ?_
  refine n_swap ?_
  refine n_callL (pc' := 570) (S := St) (As := [.int (jI (sx xs (i + 1))), .int (jI (sx xs (i + 2)))]) (rest := [.long (jL rA)]) X dL_law_567 rfl (kX6_off l D E r σ (sx xs (i + 1)) (sx xs (i + 2)) (h.wf) ⟨sx_r _ _, sx_r _ _⟩) (cwV 2 X.1.2.2.2.2 gL_law_X6_off rfl rfl rfl (by decide +kernel) ⟨Nat.le_of_ble_eq_true rfl, Nat.le_of_ble_eq_true rfl⟩) 0 rfl rfl rfl rfl (Nat.le_of_ble_eq_true rfl) ⟨Nat.le_of_ble_eq_true rfl, Nat.le_of_ble_eq_true rfl⟩ (fun rB s2 h6 => ?_)
  refine n_swap ?_
  obtain ⟨ee, hB⟩ := pm_off h h5 h6
  subst ee
  refine n_lcmp_same (tgt := 1043) (pc1 := 571) X dL_law_570 rfl dL_law_571 (by decide) ?_
  exact k _ _ hB
set_option maxHeartbeats 4000000 in
set_option maxRecDepth 100000 in
theorem law_ring {p : Program} {l : Launch} {e : Env} {s : State} {m : MethodId} {below : List Frame} {meth : Method} {c : Code} {D : va_G} {E : Nat → Nat} {b L : Nat} {xs : Nat → Int32} (X : Cx p s m #[Value.ref b] meth c cL_law 4 wsL_law RL D E (fun q => s.heap.size ≤ q)) (hX : va_X b L xs s s.heap) (hbl : b < s.heap.size) (hbA : ¬ (fun q : Nat => s.heap.size ≤ q) b) (hL : L ≤ 3072) {i : Int} (h0 : 0 ≤ i) (hi : i + 6 ≤ L) {q r : Nat → Nat} {σ τ : St} (h : Bth σ τ) (k : ∀ σ' τ', Bth σ' τ' → JG p l e room_1 s m #[Value.ref b] below meth c D (fun q => s.heap.size ≤ q) 4 (lw_Z below #[Value.ref b] s) 600000 7302250 1043 [(0, .ref b), (1, .ref (q 0)), (2, .ref (r 0)), (3, .int (jI i))] [] (CW E q τ' ++ MW E r σ')) : JG p l e room_1 s m #[Value.ref b] below meth c D (fun q => s.heap.size ≤ q) 4 (lw_Z below #[Value.ref b] s) 600000 7302250 576 [(0, .ref b), (1, .ref (q 0)), (2, .ref (r 0)), (3, .int (jI i))] [] (CW E q τ ++ MW E r σ) := by
  refine n_aload_n (pc' := 577) X dL_law_576 rfl 1 rfl rfl ?_
  refine n_aload_n (pc' := 578) X dL_law_577 rfl 0 rfl rfl ?_
  refine n_iload_n (pc' := 579) X dL_law_578 rfl 3 rfl rfl ?_
  refine n_iconst (pc' := 580) X dL_law_579 rfl ?_
  refine n_iadd (pc' := 581) X dL_law_580 rfl ?_
  refine n_sld (pc' := 582) X hX hbl hbA dL_law_581 rfl hL (by omega) ?_
  refine n_callI (pc' := 585) (S := St) (As := [.int (jI (sx xs (i + 1)))]) (rest := []) X dL_law_582 rfl (kX5_ring l D E q τ (sx xs (i + 1)) (h.1.1) (h.1.2.1) (sx_r _ _)) (cwV 1 X.1.2.2.2.2 gL_law_X5_ring rfl rfl rfl (by decide +kernel) ⟨Nat.le_of_ble_eq_true rfl, Nat.le_of_ble_eq_true rfl⟩) 0 rfl rfl rfl rfl (Nat.le_of_ble_eq_true rfl) ⟨Nat.le_of_ble_eq_true rfl, Nat.le_of_ble_eq_true rfl⟩ (fun rA t2 h5 => ?_)
  refine n_aload_n (pc' := 586) X dL_law_585 rfl 2 rfl rfl ?_
  refine n_aload_n (pc' := 587) X dL_law_586 rfl 0 rfl rfl ?_
  refine n_iload_n (pc' := 588) X dL_law_587 rfl 3 rfl rfl ?_
  refine n_iconst (pc' := 589) X dL_law_588 rfl ?_
  refine n_iadd (pc' := 590) X dL_law_589 rfl ?_
  refine n_sld (pc' := 591) X hX hbl hbA dL_law_590 rfl hL (by omega) ?_
  refine n_swap ?_
  refine n_callI (pc' := 594) (S := St) (As := [.int (jI (sx xs (i + 1)))]) (rest := [.int (jI rA)]) X dL_law_591 rfl (kX6_ring l D E r σ (sx xs (i + 1)) (h.wf) (sx_r _ _)) (cwV 1 X.1.2.2.2.2 gL_law_X6_ring rfl rfl rfl (by decide +kernel) ⟨Nat.le_of_ble_eq_true rfl, Nat.le_of_ble_eq_true rfl⟩) 0 rfl rfl rfl rfl (Nat.le_of_ble_eq_true rfl) ⟨Nat.le_of_ble_eq_true rfl, Nat.le_of_ble_eq_true rfl⟩ (fun rB s2 h6 => ?_)
  refine n_swap ?_
  obtain ⟨ee, hB⟩ := pm_ring h h5 h6
  subst ee
  refine n_icmp_same (tgt := 1043) X dL_law_594 (by decide) ?_
  exact k _ _ hB
set_option maxHeartbeats 4000000 in
set_option maxRecDepth 100000 in
theorem law_mark {p : Program} {l : Launch} {e : Env} {s : State} {m : MethodId} {below : List Frame} {meth : Method} {c : Code} {D : va_G} {E : Nat → Nat} {b L : Nat} {xs : Nat → Int32} (X : Cx p s m #[Value.ref b] meth c cL_law 4 wsL_law RL D E (fun q => s.heap.size ≤ q)) (hX : va_X b L xs s s.heap) (hbl : b < s.heap.size) (hbA : ¬ (fun q : Nat => s.heap.size ≤ q) b) (hL : L ≤ 3072) {i : Int} (h0 : 0 ≤ i) (hi : i + 6 ≤ L) {q r : Nat → Nat} {σ τ : St} (h : Bth σ τ) (k : ∀ σ' τ', Bth σ' τ' → JG p l e room_1 s m #[Value.ref b] below meth c D (fun q => s.heap.size ≤ q) 4 (lw_Z below #[Value.ref b] s) 600000 7302250 1043 [(0, .ref b), (1, .ref (q 0)), (2, .ref (r 0)), (3, .int (jI i))] [] (CW E q τ' ++ MW E r σ')) : JG p l e room_1 s m #[Value.ref b] below meth c D (fun q => s.heap.size ≤ q) 4 (lw_Z below #[Value.ref b] s) 600000 7302250 599 [(0, .ref b), (1, .ref (q 0)), (2, .ref (r 0)), (3, .int (jI i))] [] (CW E q τ ++ MW E r σ) := by
  refine n_aload_n (pc' := 600) X dL_law_599 rfl 1 rfl rfl ?_
  refine n_aload_n (pc' := 601) X dL_law_600 rfl 0 rfl rfl ?_
  refine n_iload_n (pc' := 602) X dL_law_601 rfl 3 rfl rfl ?_
  refine n_iconst (pc' := 603) X dL_law_602 rfl ?_
  refine n_iadd (pc' := 604) X dL_law_603 rfl ?_
  refine n_sld (pc' := 605) X hX hbl hbA dL_law_604 rfl hL (by omega) ?_
  refine n_aload_n (pc' := 606) X dL_law_605 rfl 0 rfl rfl ?_
  refine n_iload_n (pc' := 607) X dL_law_606 rfl 3 rfl rfl ?_
  refine n_iconst (pc' := 608) X dL_law_607 rfl ?_
  refine n_iadd (pc' := 609) X dL_law_608 rfl ?_
  refine n_sld (pc' := 610) X hX hbl hbA dL_law_609 rfl hL (by omega) ?_
  have K610 : ∀ z : Int, z = isB (sx xs (i + 2)) → JG p l e room_1 s m #[Value.ref b] below meth c D (fun q => s.heap.size ≤ q) 4 (lw_Z below #[Value.ref b] s) 600000 7302250 618 [(0, .ref b), (1, .ref (q 0)), (2, .ref (r 0)), (3, .int (jI i))] (.int (jI z) :: .int (jI (sx xs (i + 1))) :: .ref (q 0) :: []) (CW E q τ ++ MW E r σ) := by
    intro z hz
    subst hz
    refine n_callI (pc' := 621) (S := St) (As := [.int (jI (sx xs (i + 1))), .int (jI (isB (sx xs (i + 2))))]) (rest := []) X dL_law_618 rfl (kX5_mark l D E q τ (sx xs (i + 1)) (isB (sx xs (i + 2))) (h.1.1) ⟨sx_r _ _, isB_r _⟩) (cwV 2 X.1.2.2.2.2 gL_law_X5_mark rfl rfl rfl (by decide +kernel) ⟨Nat.le_of_ble_eq_true rfl, Nat.le_of_ble_eq_true rfl⟩) 0 rfl rfl rfl rfl (Nat.le_of_ble_eq_true rfl) ⟨Nat.le_of_ble_eq_true rfl, Nat.le_of_ble_eq_true rfl⟩ (fun rA t2 h5 => ?_)
    refine n_aload_n (pc' := 622) X dL_law_621 rfl 2 rfl rfl ?_
    refine n_aload_n (pc' := 623) X dL_law_622 rfl 0 rfl rfl ?_
    refine n_iload_n (pc' := 624) X dL_law_623 rfl 3 rfl rfl ?_
    refine n_iconst (pc' := 625) X dL_law_624 rfl ?_
    refine n_iadd (pc' := 626) X dL_law_625 rfl ?_
    refine n_sld (pc' := 627) X hX hbl hbA dL_law_626 rfl hL (by omega) ?_
    refine n_aload_n (pc' := 628) X dL_law_627 rfl 0 rfl rfl ?_
    refine n_iload_n (pc' := 629) X dL_law_628 rfl 3 rfl rfl ?_
    refine n_iconst (pc' := 630) X dL_law_629 rfl ?_
    refine n_iadd (pc' := 631) X dL_law_630 rfl ?_
    refine n_sld (pc' := 632) X hX hbl hbA dL_law_631 rfl hL (by omega) ?_
    have K632 : ∀ z : Int, z = isB (sx xs (i + 2)) → JG p l e room_1 s m #[Value.ref b] below meth c D (fun q => s.heap.size ≤ q) 4 (lw_Z below #[Value.ref b] s) 600000 7302250 640 [(0, .ref b), (1, .ref (q 0)), (2, .ref (r 0)), (3, .int (jI i))] (.int (jI z) :: .int (jI (sx xs (i + 1))) :: .ref (r 0) :: .int (jI rA) :: []) (CW E q t2 ++ MW E r σ) := by
      intro z hz
      subst hz
      refine n_swap ?_
      refine n_callI (pc' := 643) (S := St) (As := [.int (jI (sx xs (i + 1))), .int (jI (isB (sx xs (i + 2))))]) (rest := [.int (jI rA)]) X dL_law_640 rfl (kX6_mark l D E r σ (sx xs (i + 1)) (isB (sx xs (i + 2))) (h.wf) ⟨sx_r _ _, isB_r _⟩) (cwV 2 X.1.2.2.2.2 gL_law_X6_mark rfl rfl rfl (by decide +kernel) ⟨Nat.le_of_ble_eq_true rfl, Nat.le_of_ble_eq_true rfl⟩) 0 rfl rfl rfl rfl (Nat.le_of_ble_eq_true rfl) ⟨Nat.le_of_ble_eq_true rfl, Nat.le_of_ble_eq_true rfl⟩ (fun rB s2 h6 => ?_)
      refine n_swap ?_
      obtain ⟨ee, hB⟩ := pm_mark h h5 h6
      subst ee
      refine n_icmp_same (tgt := 1043) X dL_law_643 (by decide) ?_
      exact k _ _ hB
    refine n_if_eq (tgt := 639) (pc' := 635) X dL_law_632 (by decide) rfl (sx_r _ _) (fun hc => ?_) (fun hc => ?_)
    · refine n_iconst (pc' := 640) X dL_law_639 rfl ?_
      exact K632 0 (if_pos hc).symm
    · refine n_iconst (pc' := 636) X dL_law_635 rfl ?_
      refine n_goto (tgt := 640) X dL_law_636 (by decide) ?_
      exact K632 1 (if_neg hc).symm
  refine n_if_eq (tgt := 617) (pc' := 613) X dL_law_610 (by decide) rfl (sx_r _ _) (fun hc => ?_) (fun hc => ?_)
  · refine n_iconst (pc' := 618) X dL_law_617 rfl ?_
    exact K610 0 (if_pos hc).symm
  · refine n_iconst (pc' := 614) X dL_law_613 rfl ?_
    refine n_goto (tgt := 618) X dL_law_614 (by decide) ?_
    exact K610 1 (if_neg hc).symm
set_option maxHeartbeats 4000000 in
set_option maxRecDepth 100000 in
theorem law_markAt {p : Program} {l : Launch} {e : Env} {s : State} {m : MethodId} {below : List Frame} {meth : Method} {c : Code} {D : va_G} {E : Nat → Nat} {b L : Nat} {xs : Nat → Int32} (X : Cx p s m #[Value.ref b] meth c cL_law 4 wsL_law RL D E (fun q => s.heap.size ≤ q)) (hX : va_X b L xs s s.heap) (hbl : b < s.heap.size) (hbA : ¬ (fun q : Nat => s.heap.size ≤ q) b) (hL : L ≤ 3072) {i : Int} (h0 : 0 ≤ i) (hi : i + 6 ≤ L) {q r : Nat → Nat} {σ τ : St} (h : Bth σ τ) (k : ∀ σ' τ', Bth σ' τ' → JG p l e room_1 s m #[Value.ref b] below meth c D (fun q => s.heap.size ≤ q) 4 (lw_Z below #[Value.ref b] s) 600000 7302250 1043 [(0, .ref b), (1, .ref (q 0)), (2, .ref (r 0)), (3, .int (jI i))] [] (CW E q τ' ++ MW E r σ')) : JG p l e room_1 s m #[Value.ref b] below meth c D (fun q => s.heap.size ≤ q) 4 (lw_Z below #[Value.ref b] s) 600000 7302250 648 [(0, .ref b), (1, .ref (q 0)), (2, .ref (r 0)), (3, .int (jI i))] [] (CW E q τ ++ MW E r σ) := by
  refine n_aload_n (pc' := 649) X dL_law_648 rfl 1 rfl rfl ?_
  refine n_aload_n (pc' := 650) X dL_law_649 rfl 0 rfl rfl ?_
  refine n_iload_n (pc' := 651) X dL_law_650 rfl 3 rfl rfl ?_
  refine n_iconst (pc' := 652) X dL_law_651 rfl ?_
  refine n_iadd (pc' := 653) X dL_law_652 rfl ?_
  refine n_sld (pc' := 654) X hX hbl hbA dL_law_653 rfl hL (by omega) ?_
  refine n_callI (pc' := 657) (S := St) (As := [.int (jI (sx xs (i + 1)))]) (rest := []) X dL_law_654 rfl (kX5_markAt l D E q τ (sx xs (i + 1)) (h.1.1) (sx_r _ _)) (cwV 1 X.1.2.2.2.2 gL_law_X5_markAt rfl rfl rfl (by decide +kernel) ⟨Nat.le_of_ble_eq_true rfl, Nat.le_of_ble_eq_true rfl⟩) 0 rfl rfl rfl rfl (Nat.le_of_ble_eq_true rfl) ⟨Nat.le_of_ble_eq_true rfl, Nat.le_of_ble_eq_true rfl⟩ (fun rA t2 h5 => ?_)
  refine n_aload_n (pc' := 658) X dL_law_657 rfl 2 rfl rfl ?_
  refine n_aload_n (pc' := 659) X dL_law_658 rfl 0 rfl rfl ?_
  refine n_iload_n (pc' := 660) X dL_law_659 rfl 3 rfl rfl ?_
  refine n_iconst (pc' := 661) X dL_law_660 rfl ?_
  refine n_iadd (pc' := 662) X dL_law_661 rfl ?_
  refine n_sld (pc' := 663) X hX hbl hbA dL_law_662 rfl hL (by omega) ?_
  refine n_swap ?_
  refine n_callI (pc' := 666) (S := St) (As := [.int (jI (sx xs (i + 1)))]) (rest := [.int (jI rA)]) X dL_law_663 rfl (kX6_markAt l D E r σ (sx xs (i + 1)) (h.wf) (sx_r _ _)) (cwV 1 X.1.2.2.2.2 gL_law_X6_markAt rfl rfl rfl (by decide +kernel) ⟨Nat.le_of_ble_eq_true rfl, Nat.le_of_ble_eq_true rfl⟩) 0 rfl rfl rfl rfl (Nat.le_of_ble_eq_true rfl) ⟨Nat.le_of_ble_eq_true rfl, Nat.le_of_ble_eq_true rfl⟩ (fun rB s2 h6 => ?_)
  refine n_swap ?_
  obtain ⟨ee, hB⟩ := pm_markAt h h5 h6
  subst ee
  refine n_icmp_same (tgt := 1043) X dL_law_666 (by decide) ?_
  exact k _ _ hB
set_option maxHeartbeats 4000000 in
set_option maxRecDepth 100000 in
theorem law_nearest {p : Program} {l : Launch} {e : Env} {s : State} {m : MethodId} {below : List Frame} {meth : Method} {c : Code} {D : va_G} {E : Nat → Nat} {b L : Nat} {xs : Nat → Int32} (X : Cx p s m #[Value.ref b] meth c cL_law 4 wsL_law RL D E (fun q => s.heap.size ≤ q)) (hX : va_X b L xs s s.heap) (hbl : b < s.heap.size) (hbA : ¬ (fun q : Nat => s.heap.size ≤ q) b) (hL : L ≤ 3072) {i : Int} (h0 : 0 ≤ i) (hi : i + 6 ≤ L) {q r : Nat → Nat} {σ τ : St} (h : Bth σ τ) (k : ∀ σ' τ', Bth σ' τ' → JG p l e room_1 s m #[Value.ref b] below meth c D (fun q => s.heap.size ≤ q) 4 (lw_Z below #[Value.ref b] s) 600000 7302250 1043 [(0, .ref b), (1, .ref (q 0)), (2, .ref (r 0)), (3, .int (jI i))] [] (CW E q τ' ++ MW E r σ')) : JG p l e room_1 s m #[Value.ref b] below meth c D (fun q => s.heap.size ≤ q) 4 (lw_Z below #[Value.ref b] s) 600000 7302250 671 [(0, .ref b), (1, .ref (q 0)), (2, .ref (r 0)), (3, .int (jI i))] [] (CW E q τ ++ MW E r σ) := by
  refine n_aload_n (pc' := 672) X dL_law_671 rfl 1 rfl rfl ?_
  refine n_aload_n (pc' := 673) X dL_law_672 rfl 0 rfl rfl ?_
  refine n_iload_n (pc' := 674) X dL_law_673 rfl 3 rfl rfl ?_
  refine n_iconst (pc' := 675) X dL_law_674 rfl ?_
  refine n_iadd (pc' := 676) X dL_law_675 rfl ?_
  refine n_sld (pc' := 677) X hX hbl hbA dL_law_676 rfl hL (by omega) ?_
  refine n_callI (pc' := 680) (S := St) (As := [.int (jI (sx xs (i + 1)))]) (rest := []) X dL_law_677 rfl (kX5_nearest l D E q τ (sx xs (i + 1)) (h.1.1) (h.1.2.1) (sx_r _ _)) (cwV 1 X.1.2.2.2.2 gL_law_X5_nearest rfl rfl rfl (by decide +kernel) ⟨Nat.le_of_ble_eq_true rfl, Nat.le_of_ble_eq_true rfl⟩) 0 rfl rfl rfl rfl (Nat.le_of_ble_eq_true rfl) ⟨Nat.le_of_ble_eq_true rfl, Nat.le_of_ble_eq_true rfl⟩ (fun rA t2 h5 => ?_)
  refine n_aload_n (pc' := 681) X dL_law_680 rfl 2 rfl rfl ?_
  refine n_aload_n (pc' := 682) X dL_law_681 rfl 0 rfl rfl ?_
  refine n_iload_n (pc' := 683) X dL_law_682 rfl 3 rfl rfl ?_
  refine n_iconst (pc' := 684) X dL_law_683 rfl ?_
  refine n_iadd (pc' := 685) X dL_law_684 rfl ?_
  refine n_sld (pc' := 686) X hX hbl hbA dL_law_685 rfl hL (by omega) ?_
  refine n_swap ?_
  refine n_callI (pc' := 689) (S := St) (As := [.int (jI (sx xs (i + 1)))]) (rest := [.int (jI rA)]) X dL_law_686 rfl (kX6_nearest l D E r σ (sx xs (i + 1)) (h.wf) (sx_r _ _)) (cwV 1 X.1.2.2.2.2 gL_law_X6_nearest rfl rfl rfl (by decide +kernel) ⟨Nat.le_of_ble_eq_true rfl, Nat.le_of_ble_eq_true rfl⟩) 0 rfl rfl rfl rfl (Nat.le_of_ble_eq_true rfl) ⟨Nat.le_of_ble_eq_true rfl, Nat.le_of_ble_eq_true rfl⟩ (fun rB s2 h6 => ?_)
  refine n_swap ?_
  obtain ⟨ee, hB⟩ := pm_nearest h h5 h6
  subst ee
  refine n_icmp_same (tgt := 1043) X dL_law_689 (by decide) ?_
  exact k _ _ hB
set_option maxHeartbeats 4000000 in
set_option maxRecDepth 100000 in
theorem law_away {p : Program} {l : Launch} {e : Env} {s : State} {m : MethodId} {below : List Frame} {meth : Method} {c : Code} {D : va_G} {E : Nat → Nat} {b L : Nat} {xs : Nat → Int32} (X : Cx p s m #[Value.ref b] meth c cL_law 4 wsL_law RL D E (fun q => s.heap.size ≤ q)) (hX : va_X b L xs s s.heap) (hbl : b < s.heap.size) (hbA : ¬ (fun q : Nat => s.heap.size ≤ q) b) (hL : L ≤ 3072) {i : Int} (h0 : 0 ≤ i) (hi : i + 6 ≤ L) {q r : Nat → Nat} {σ τ : St} (h : Bth σ τ) (k : ∀ σ' τ', Bth σ' τ' → JG p l e room_1 s m #[Value.ref b] below meth c D (fun q => s.heap.size ≤ q) 4 (lw_Z below #[Value.ref b] s) 600000 7302250 1043 [(0, .ref b), (1, .ref (q 0)), (2, .ref (r 0)), (3, .int (jI i))] [] (CW E q τ' ++ MW E r σ')) : JG p l e room_1 s m #[Value.ref b] below meth c D (fun q => s.heap.size ≤ q) 4 (lw_Z below #[Value.ref b] s) 600000 7302250 694 [(0, .ref b), (1, .ref (q 0)), (2, .ref (r 0)), (3, .int (jI i))] [] (CW E q τ ++ MW E r σ) := by
  refine n_aload_n (pc' := 695) X dL_law_694 rfl 1 rfl rfl ?_
  refine n_aload_n (pc' := 696) X dL_law_695 rfl 0 rfl rfl ?_
  refine n_iload_n (pc' := 697) X dL_law_696 rfl 3 rfl rfl ?_
  refine n_iconst (pc' := 698) X dL_law_697 rfl ?_
  refine n_iadd (pc' := 699) X dL_law_698 rfl ?_
  refine n_sld (pc' := 700) X hX hbl hbA dL_law_699 rfl hL (by omega) ?_
  refine n_aload_n (pc' := 701) X dL_law_700 rfl 0 rfl rfl ?_
  refine n_iload_n (pc' := 702) X dL_law_701 rfl 3 rfl rfl ?_
  refine n_iconst (pc' := 703) X dL_law_702 rfl ?_
  refine n_iadd (pc' := 704) X dL_law_703 rfl ?_
  refine n_sld (pc' := 705) X hX hbl hbA dL_law_704 rfl hL (by omega) ?_
  refine n_callL (pc' := 708) (S := St) (As := [.int (jI (sx xs (i + 1))), .int (jI (sx xs (i + 2)))]) (rest := []) X dL_law_705 rfl (kX5_away l D E q τ (sx xs (i + 1)) (sx xs (i + 2)) (h.1.1) (h.1.2.1) ⟨sx_r _ _, sx_r _ _⟩) (cwV 2 X.1.2.2.2.2 gL_law_X5_away rfl rfl rfl (by decide +kernel) ⟨Nat.le_of_ble_eq_true rfl, Nat.le_of_ble_eq_true rfl⟩) 0 rfl rfl rfl rfl (Nat.le_of_ble_eq_true rfl) ⟨Nat.le_of_ble_eq_true rfl, Nat.le_of_ble_eq_true rfl⟩ (fun rA t2 h5 => ?_)
  refine n_aload_n (pc' := 709) X dL_law_708 rfl 2 rfl rfl ?_
  refine n_aload_n (pc' := 710) X dL_law_709 rfl 0 rfl rfl ?_
  refine n_iload_n (pc' := 711) X dL_law_710 rfl 3 rfl rfl ?_
  refine n_iconst (pc' := 712) X dL_law_711 rfl ?_
  refine n_iadd (pc' := 713) X dL_law_712 rfl ?_
  refine n_sld (pc' := 714) X hX hbl hbA dL_law_713 rfl hL (by omega) ?_
  refine n_aload_n (pc' := 715) X dL_law_714 rfl 0 rfl rfl ?_
  refine n_iload_n (pc' := 716) X dL_law_715 rfl 3 rfl rfl ?_
  refine n_iconst (pc' := 717) X dL_law_716 rfl ?_
  refine n_iadd (pc' := 718) X dL_law_717 rfl ?_
  refine n_sld (pc' := 719) X hX hbl hbA dL_law_718 rfl hL (by omega) ?_
  refine n_swap ?_
  refine n_callL (pc' := 722) (S := St) (As := [.int (jI (sx xs (i + 1))), .int (jI (sx xs (i + 2)))]) (rest := [.long (jL rA)]) X dL_law_719 rfl (kX6_away l D E r σ (sx xs (i + 1)) (sx xs (i + 2)) (h.wf) ⟨sx_r _ _, sx_r _ _⟩) (cwV 2 X.1.2.2.2.2 gL_law_X6_away rfl rfl rfl (by decide +kernel) ⟨Nat.le_of_ble_eq_true rfl, Nat.le_of_ble_eq_true rfl⟩) 0 rfl rfl rfl rfl (Nat.le_of_ble_eq_true rfl) ⟨Nat.le_of_ble_eq_true rfl, Nat.le_of_ble_eq_true rfl⟩ (fun rB s2 h6 => ?_)
  refine n_swap ?_
  obtain ⟨ee, hB⟩ := pm_away h h5 h6
  subst ee
  refine n_lcmp_same (tgt := 1043) (pc1 := 723) X dL_law_722 rfl dL_law_723 (by decide) ?_
  exact k _ _ hB
