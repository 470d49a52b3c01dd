/-! ===== the law, call by call ===== -/
set_option maxHeartbeats 4000000 in
set_option maxRecDepth 100000 in
theorem law_pin {p : Program} {l : Launch} {e : Env} {s : State} {m : MethodId} {below : List Frame} {meth : Method} {c : Code} {D : va_G} {E : Nat → Nat} {b L : Nat} {xs : Nat → Int32} (X : Cx p s m #[Value.ref b] meth c cL_law 4 wsL_law RL D E (fun q => s.heap.size ≤ q)) (hX : va_X b L xs s s.heap) (hbl : b < s.heap.size) (hbA : ¬ (fun q : Nat => s.heap.size ≤ q) b) (hL : L ≤ 3072) {i : Int} (h0 : 0 ≤ i) (hi : i + 6 ≤ L) {q r : Nat → Nat} {σ τ : St} (h : Bth σ τ) (k : ∀ σ' τ', Bth σ' τ' → JG p l e room_1 s m #[Value.ref b] below meth c D (fun q => s.heap.size ≤ q) 4 (lw_Z below #[Value.ref b] s) 600000 7302250 1043 [(0, .ref b), (1, .ref (q 0)), (2, .ref (r 0)), (3, .int (jI i))] [] (CW E q τ' ++ MW E r σ')) : JG p l e room_1 s m #[Value.ref b] below meth c D (fun q => s.heap.size ≤ q) 4 (lw_Z below #[Value.ref b] s) 600000 7302250 728 [(0, .ref b), (1, .ref (q 0)), (2, .ref (r 0)), (3, .int (jI i))] [] (CW E q τ ++ MW E r σ) := by
  refine n_aload_n (pc' := 729) X dL_law_728 rfl 1 rfl rfl ?_
  refine n_aload_n (pc' := 730) X dL_law_729 rfl 0 rfl rfl ?_
  refine n_iload_n (pc' := 731) X dL_law_730 rfl 3 rfl rfl ?_
  refine n_iconst (pc' := 732) X dL_law_731 rfl ?_
  refine n_iadd (pc' := 733) X dL_law_732 rfl ?_
  refine n_sld (pc' := 734) X hX hbl hbA dL_law_733 rfl hL (by omega) ?_
  refine n_aload_n (pc' := 735) X dL_law_734 rfl 0 rfl rfl ?_
  refine n_iload_n (pc' := 736) X dL_law_735 rfl 3 rfl rfl ?_
  refine n_iconst (pc' := 737) X dL_law_736 rfl ?_
  refine n_iadd (pc' := 738) X dL_law_737 rfl ?_
  refine n_sld (pc' := 739) X hX hbl hbA dL_law_738 rfl hL (by omega) ?_
  refine n_callI (pc' := 742) (S := St) (As := [.int (jI (sx xs (i + 1))), .int (jI (sx xs (i + 2)))]) (rest := []) X dL_law_739 rfl (kX5_pin l D E q τ (sx xs (i + 1)) (sx xs (i + 2)) (h.1.1) ⟨sx_r _ _, sx_r _ _⟩) (cwV 2 X.1.2.2.2.2 gL_law_X5_pin rfl rfl rfl (by decide +kernel) ⟨Nat.le_of_ble_eq_true rfl, Nat.le_of_ble_eq_true rfl⟩) 0 rfl rfl rfl rfl (Nat.le_of_ble_eq_true rfl) ⟨Nat.le_of_ble_eq_true rfl, Nat.le_of_ble_eq_true rfl⟩ (fun rA t2 h5 => ?_)
  refine n_aload_n (pc' := 743) X dL_law_742 rfl 2 rfl rfl ?_
  refine n_aload_n (pc' := 744) X dL_law_743 rfl 0 rfl rfl ?_
  refine n_iload_n (pc' := 745) X dL_law_744 rfl 3 rfl rfl ?_
  refine n_iconst (pc' := 746) X dL_law_745 rfl ?_
  refine n_iadd (pc' := 747) X dL_law_746 rfl ?_
  refine n_sld (pc' := 748) X hX hbl hbA dL_law_747 rfl hL (by omega) ?_
  refine n_aload_n (pc' := 749) X dL_law_748 rfl 0 rfl rfl ?_
  refine n_iload_n (pc' := 750) X dL_law_749 rfl 3 rfl rfl ?_
  refine n_iconst (pc' := 751) X dL_law_750 rfl ?_
  refine n_iadd (pc' := 752) X dL_law_751 rfl ?_
  refine n_sld (pc' := 753) X hX hbl hbA dL_law_752 rfl hL (by omega) ?_
  refine n_swap ?_
  refine n_callI (pc' := 756) (S := St) (As := [.int (jI (sx xs (i + 1))), .int (jI (sx xs (i + 2)))]) (rest := [.int (jI rA)]) X dL_law_753 rfl (kX6_pin l D E r σ (sx xs (i + 1)) (sx xs (i + 2)) (h.wf) ⟨sx_r _ _, sx_r _ _⟩) (cwV 2 X.1.2.2.2.2 gL_law_X6_pin rfl rfl rfl (by decide +kernel) ⟨Nat.le_of_ble_eq_true rfl, Nat.le_of_ble_eq_true rfl⟩) 0 rfl rfl rfl rfl (Nat.le_of_ble_eq_true rfl) ⟨Nat.le_of_ble_eq_true rfl, Nat.le_of_ble_eq_true rfl⟩ (fun rB s2 h6 => ?_)
  refine n_swap ?_
  obtain ⟨ee, hB⟩ := pm_pin h h5 h6
  subst ee
  refine n_icmp_same (tgt := 1043) X dL_law_756 (by decide) ?_
  exact k _ _ hB
set_option maxHeartbeats 4000000 in
set_option maxRecDepth 100000 in
theorem law_harm {p : Program} {l : Launch} {e : Env} {s : State} {m : MethodId} {below : List Frame} {meth : Method} {c : Code} {D : va_G} {E : Nat → Nat} {b L : Nat} {xs : Nat → Int32} (X : Cx p s m #[Value.ref b] meth c cL_law 4 wsL_law RL D E (fun q => s.heap.size ≤ q)) (hX : va_X b L xs s s.heap) (hbl : b < s.heap.size) (hbA : ¬ (fun q : Nat => s.heap.size ≤ q) b) (hL : L ≤ 3072) {i : Int} (h0 : 0 ≤ i) (hi : i + 6 ≤ L) {q r : Nat → Nat} {σ τ : St} (h : Bth σ τ) (k : ∀ σ' τ', Bth σ' τ' → JG p l e room_1 s m #[Value.ref b] below meth c D (fun q => s.heap.size ≤ q) 4 (lw_Z below #[Value.ref b] s) 600000 7302250 1043 [(0, .ref b), (1, .ref (q 0)), (2, .ref (r 0)), (3, .int (jI i))] [] (CW E q τ' ++ MW E r σ')) : JG p l e room_1 s m #[Value.ref b] below meth c D (fun q => s.heap.size ≤ q) 4 (lw_Z below #[Value.ref b] s) 600000 7302250 761 [(0, .ref b), (1, .ref (q 0)), (2, .ref (r 0)), (3, .int (jI i))] [] (CW E q τ ++ MW E r σ) := by
  refine n_aload_n (pc' := 762) X dL_law_761 rfl 1 rfl rfl ?_
  refine n_callI (pc' := 765) (S := St) (As := []) (rest := []) X dL_law_762 rfl (kX5_harm l D E q τ  (h.1.1) (h.1.2.1) (h.1.2.2.1)) (cwV 0 X.1.2.2.2.2 gL_law_X5_harm rfl rfl rfl (by decide +kernel) ⟨Nat.le_of_ble_eq_true rfl, Nat.le_of_ble_eq_true rfl⟩) 0 rfl rfl rfl rfl (Nat.le_of_ble_eq_true rfl) ⟨Nat.le_of_ble_eq_true rfl, Nat.le_of_ble_eq_true rfl⟩ (fun rA t2 h5 => ?_)
  refine n_aload_n (pc' := 766) X dL_law_765 rfl 2 rfl rfl ?_
  refine n_swap ?_
  refine n_callI (pc' := 769) (S := St) (As := []) (rest := [.int (jI rA)]) X dL_law_766 rfl (kX6_harm l D E r σ  (h.wf)) (cwV 0 X.1.2.2.2.2 gL_law_X6_harm rfl rfl rfl (by decide +kernel) ⟨Nat.le_of_ble_eq_true rfl, Nat.le_of_ble_eq_true rfl⟩) 0 rfl rfl rfl rfl (Nat.le_of_ble_eq_true rfl) ⟨Nat.le_of_ble_eq_true rfl, Nat.le_of_ble_eq_true rfl⟩ (fun rB s2 h6 => ?_)
  refine n_swap ?_
  obtain ⟨ee, hB⟩ := pm_harm h h5 h6
  subst ee
  refine n_icmp_same (tgt := 1043) X dL_law_769 (by decide) ?_
  exact k _ _ hB
set_option maxHeartbeats 4000000 in
set_option maxRecDepth 100000 in
theorem law_play {p : Program} {l : Launch} {e : Env} {s : State} {m : MethodId} {below : List Frame} {meth : Method} {c : Code} {D : va_G} {E : Nat → Nat} {b L : Nat} {xs : Nat → Int32} (X : Cx p s m #[Value.ref b] meth c cL_law 4 wsL_law RL D E (fun q => s.heap.size ≤ q)) (hX : va_X b L xs s s.heap) (hbl : b < s.heap.size) (hbA : ¬ (fun q : Nat => s.heap.size ≤ q) b) (hL : L ≤ 3072) {i : Int} (h0 : 0 ≤ i) (hi : i + 6 ≤ L) {q r : Nat → Nat} {σ τ : St} (h : Bth σ τ) (k : ∀ σ' τ', Bth σ' τ' → JG p l e room_1 s m #[Value.ref b] below meth c D (fun q => s.heap.size ≤ q) 4 (lw_Z below #[Value.ref b] s) 600000 7302250 1043 [(0, .ref b), (1, .ref (q 0)), (2, .ref (r 0)), (3, .int (jI i))] [] (CW E q τ' ++ MW E r σ')) : JG p l e room_1 s m #[Value.ref b] below meth c D (fun q => s.heap.size ≤ q) 4 (lw_Z below #[Value.ref b] s) 600000 7302250 774 [(0, .ref b), (1, .ref (q 0)), (2, .ref (r 0)), (3, .int (jI i))] [] (CW E q τ ++ MW E r σ) := by
  refine n_aload_n (pc' := 775) X dL_law_774 rfl 1 rfl rfl ?_
  refine n_aload_n (pc' := 776) X dL_law_775 rfl 0 rfl rfl ?_
  refine n_iload_n (pc' := 777) X dL_law_776 rfl 3 rfl rfl ?_
  refine n_iconst (pc' := 778) X dL_law_777 rfl ?_
  refine n_iadd (pc' := 779) X dL_law_778 rfl ?_
  refine n_sld (pc' := 780) X hX hbl hbA dL_law_779 rfl hL (by omega) ?_
  refine n_callI (pc' := 783) (S := St) (As := [.int (jI (sx xs (i + 1)))]) (rest := []) X dL_law_780 rfl (kX5_play l D E q τ (sx xs (i + 1)) (h.1.1) (h.1.2.1) (h.1.2.2.1) (sx_r _ _)) (cwV 1 X.1.2.2.2.2 gL_law_X5_play rfl rfl rfl (by decide +kernel) ⟨Nat.le_of_ble_eq_true rfl, Nat.le_of_ble_eq_true rfl⟩) 0 rfl rfl rfl rfl (Nat.le_of_ble_eq_true rfl) ⟨Nat.le_of_ble_eq_true rfl, Nat.le_of_ble_eq_true rfl⟩ (fun rA t2 h5 => ?_)
  refine n_aload_n (pc' := 784) X dL_law_783 rfl 2 rfl rfl ?_
  refine n_aload_n (pc' := 785) X dL_law_784 rfl 0 rfl rfl ?_
  refine n_iload_n (pc' := 786) X dL_law_785 rfl 3 rfl rfl ?_
  refine n_iconst (pc' := 787) X dL_law_786 rfl ?_
  refine n_iadd (pc' := 788) X dL_law_787 rfl ?_
  refine n_sld (pc' := 789) X hX hbl hbA dL_law_788 rfl hL (by omega) ?_
  refine n_swap ?_
  refine n_callI (pc' := 792) (S := St) (As := [.int (jI (sx xs (i + 1)))]) (rest := [.int (jI rA)]) X dL_law_789 rfl (kX6_play l D E r σ (sx xs (i + 1)) (h.wf) (sx_r _ _)) (cwV 1 X.1.2.2.2.2 gL_law_X6_play rfl rfl rfl (by decide +kernel) ⟨Nat.le_of_ble_eq_true rfl, Nat.le_of_ble_eq_true rfl⟩) 0 rfl rfl rfl rfl (Nat.le_of_ble_eq_true rfl) ⟨Nat.le_of_ble_eq_true rfl, Nat.le_of_ble_eq_true rfl⟩ (fun rB s2 h6 => ?_)
  refine n_swap ?_
  obtain ⟨ee, hB⟩ := pm_play h h5 h6
  subst ee
  refine n_icmp_same (tgt := 1043) X dL_law_792 (by decide) ?_
  exact k _ _ hB
set_option maxHeartbeats 4000000 in
set_option maxRecDepth 100000 in
theorem law_drift {p : Program} {l : Launch} {e : Env} {s : State} {m : MethodId} {below : List Frame} {meth : Method} {c : Code} {D : va_G} {E : Nat → Nat} {b L : Nat} {xs : Nat → Int32} (X : Cx p s m #[Value.ref b] meth c cL_law 4 wsL_law RL D E (fun q => s.heap.size ≤ q)) (hX : va_X b L xs s s.heap) (hbl : b < s.heap.size) (hbA : ¬ (fun q : Nat => s.heap.size ≤ q) b) (hL : L ≤ 3072) {i : Int} (h0 : 0 ≤ i) (hi : i + 6 ≤ L) {q r : Nat → Nat} {σ τ : St} (h : Bth σ τ) (k : ∀ σ' τ', Bth σ' τ' → JG p l e room_1 s m #[Value.ref b] below meth c D (fun q => s.heap.size ≤ q) 4 (lw_Z below #[Value.ref b] s) 600000 7302250 1043 [(0, .ref b), (1, .ref (q 0)), (2, .ref (r 0)), (3, .int (jI i))] [] (CW E q τ' ++ MW E r σ')) : JG p l e room_1 s m #[Value.ref b] below meth c D (fun q => s.heap.size ≤ q) 4 (lw_Z below #[Value.ref b] s) 600000 7302250 797 [(0, .ref b), (1, .ref (q 0)), (2, .ref (r 0)), (3, .int (jI i))] [] (CW E q τ ++ MW E r σ) := by
  refine n_aload_n (pc' := 798) X dL_law_797 rfl 1 rfl rfl ?_
  refine n_aload_n (pc' := 799) X dL_law_798 rfl 0 rfl rfl ?_
  refine n_iload_n (pc' := 800) X dL_law_799 rfl 3 rfl rfl ?_
  refine n_iconst (pc' := 801) X dL_law_800 rfl ?_
  refine n_iadd (pc' := 802) X dL_law_801 rfl ?_
  refine n_sld (pc' := 803) X hX hbl hbA dL_law_802 rfl hL (by omega) ?_
  refine n_callI (pc' := 806) (S := St) (As := [.int (jI (sx xs (i + 1)))]) (rest := []) X dL_law_803 rfl (kX5_drift l D E q τ (sx xs (i + 1)) (h.1.1) (h.1.2.1) (h.1.2.2.1) (sx_r _ _)) (cwV 1 X.1.2.2.2.2 gL_law_X5_drift rfl rfl rfl (by decide +kernel) ⟨Nat.le_of_ble_eq_true rfl, Nat.le_of_ble_eq_true rfl⟩) 0 rfl rfl rfl rfl (Nat.le_of_ble_eq_true rfl) ⟨Nat.le_of_ble_eq_true rfl, Nat.le_of_ble_eq_true rfl⟩ (fun rA t2 h5 => ?_)
  refine n_aload_n (pc' := 807) X dL_law_806 rfl 2 rfl rfl ?_
  refine n_aload_n (pc' := 808) X dL_law_807 rfl 0 rfl rfl ?_
  refine n_iload_n (pc' := 809) X dL_law_808 rfl 3 rfl rfl ?_
  refine n_iconst (pc' := 810) X dL_law_809 rfl ?_
  refine n_iadd (pc' := 811) X dL_law_810 rfl ?_
  refine n_sld (pc' := 812) X hX hbl hbA dL_law_811 rfl hL (by omega) ?_
  refine n_swap ?_
  refine n_callI (pc' := 815) (S := St) (As := [.int (jI (sx xs (i + 1)))]) (rest := [.int (jI rA)]) X dL_law_812 rfl (kX6_drift l D E r σ (sx xs (i + 1)) (h.wf) (sx_r _ _)) (cwV 1 X.1.2.2.2.2 gL_law_X6_drift rfl rfl rfl (by decide +kernel) ⟨Nat.le_of_ble_eq_true rfl, Nat.le_of_ble_eq_true rfl⟩) 0 rfl rfl rfl rfl (Nat.le_of_ble_eq_true rfl) ⟨Nat.le_of_ble_eq_true rfl, Nat.le_of_ble_eq_true rfl⟩ (fun rB s2 h6 => ?_)
  refine n_swap ?_
  obtain ⟨ee, hB⟩ := pm_drift h h5 h6
  subst ee
  refine n_icmp_same (tgt := 1043) X dL_law_815 (by decide) ?_
  exact k _ _ hB
set_option maxHeartbeats 4000000 in
set_option maxRecDepth 100000 in
theorem law_clock {p : Program} {l : Launch} {e : Env} {s : State} {m : MethodId} {below : List Frame} {meth : Method} {c : Code} {D : va_G} {E : Nat → Nat} {b L : Nat} {xs : Nat → Int32} (X : Cx p s m #[Value.ref b] meth c cL_law 4 wsL_law RL D E (fun q => s.heap.size ≤ q)) (hX : va_X b L xs s s.heap) (hbl : b < s.heap.size) (hbA : ¬ (fun q : Nat => s.heap.size ≤ q) b) (hL : L ≤ 3072) {i : Int} (h0 : 0 ≤ i) (hi : i + 6 ≤ L) {q r : Nat → Nat} {σ τ : St} (h : Bth σ τ) (k : ∀ σ' τ', Bth σ' τ' → JG p l e room_1 s m #[Value.ref b] below meth c D (fun q => s.heap.size ≤ q) 4 (lw_Z below #[Value.ref b] s) 600000 7302250 1043 [(0, .ref b), (1, .ref (q 0)), (2, .ref (r 0)), (3, .int (jI i))] [] (CW E q τ' ++ MW E r σ')) : JG p l e room_1 s m #[Value.ref b] below meth c D (fun q => s.heap.size ≤ q) 4 (lw_Z below #[Value.ref b] s) 600000 7302250 820 [(0, .ref b), (1, .ref (q 0)), (2, .ref (r 0)), (3, .int (jI i))] [] (CW E q τ ++ MW E r σ) := by
  refine n_aload_n (pc' := 821) X dL_law_820 rfl 1 rfl rfl ?_
  refine n_aload_n (pc' := 822) X dL_law_821 rfl 0 rfl rfl ?_
  refine n_iload_n (pc' := 823) X dL_law_822 rfl 3 rfl rfl ?_
  refine n_iconst (pc' := 824) X dL_law_823 rfl ?_
  refine n_iadd (pc' := 825) X dL_law_824 rfl ?_
  refine n_sld (pc' := 826) X hX hbl hbA dL_law_825 rfl hL (by omega) ?_
  refine n_aload_n (pc' := 827) X dL_law_826 rfl 0 rfl rfl ?_
  refine n_iload_n (pc' := 828) X dL_law_827 rfl 3 rfl rfl ?_
  refine n_iconst (pc' := 829) X dL_law_828 rfl ?_
  refine n_iadd (pc' := 830) X dL_law_829 rfl ?_
  refine n_sld (pc' := 831) X hX hbl hbA dL_law_830 rfl hL (by omega) ?_
  refine n_callL (pc' := 834) (S := St) (As := [.int (jI (sx xs (i + 1))), .int (jI (sx xs (i + 2)))]) (rest := []) X dL_law_831 rfl (kX5_clock l D E q τ (sx xs (i + 1)) (sx xs (i + 2)) (h.1.1) (h.1.2.1) ⟨sx_r _ _, sx_r _ _⟩) (cwV 2 X.1.2.2.2.2 gL_law_X5_clock rfl rfl rfl (by decide +kernel) ⟨Nat.le_of_ble_eq_true rfl, Nat.le_of_ble_eq_true rfl⟩) 0 rfl rfl rfl rfl (Nat.le_of_ble_eq_true rfl) ⟨Nat.le_of_ble_eq_true rfl, Nat.le_of_ble_eq_true rfl⟩ (fun rA t2 h5 => ?_)
  refine n_aload_n (pc' := 835) X dL_law_834 rfl 2 rfl rfl ?_
  refine n_aload_n (pc' := 836) X dL_law_835 rfl 0 rfl rfl ?_
  refine n_iload_n (pc' := 837) X dL_law_836 rfl 3 rfl rfl ?_
  refine n_iconst (pc' := 838) X dL_law_837 rfl ?_
  refine n_iadd (pc' := 839) X dL_law_838 rfl ?_
  refine n_sld (pc' := 840) X hX hbl hbA dL_law_839 rfl hL (by omega) ?_
  refine n_aload_n (pc' := 841) X dL_law_840 rfl 0 rfl rfl ?_
  refine n_iload_n (pc' := 842) X dL_law_841 rfl 3 rfl rfl ?_
  refine n_iconst (pc' := 843) X dL_law_842 rfl ?_
  refine n_iadd (pc' := 844) X dL_law_843 rfl ?_
  refine n_sld (pc' := 845) X hX hbl hbA dL_law_844 rfl hL (by omega) ?_
  refine n_swap ?_
  refine n_callL (pc' := 848) (S := St) (As := [.int (jI (sx xs (i + 1))), .int (jI (sx xs (i + 2)))]) (rest := [.long (jL rA)]) X dL_law_845 rfl (kX6_clock l D E r σ (sx xs (i + 1)) (sx xs (i + 2)) (h.wf) ⟨sx_r _ _, sx_r _ _⟩) (cwV 2 X.1.2.2.2.2 gL_law_X6_clock rfl rfl rfl (by decide +kernel) ⟨Nat.le_of_ble_eq_true rfl, Nat.le_of_ble_eq_true rfl⟩) 0 rfl rfl rfl rfl (Nat.le_of_ble_eq_true rfl) ⟨Nat.le_of_ble_eq_true rfl, Nat.le_of_ble_eq_true rfl⟩ (fun rB s2 h6 => ?_)
  refine n_swap ?_
  obtain ⟨ee, hB⟩ := pm_clock h h5 h6
  subst ee
  refine n_lcmp_same (tgt := 1043) (pc1 := 849) X dL_law_848 rfl dL_law_849 (by decide) ?_
  exact k _ _ hB
set_option maxHeartbeats 4000000 in
set_option maxRecDepth 100000 in
theorem law_whole {p : Program} {l : Launch} {e : Env} {s : State} {m : MethodId} {below : List Frame} {meth : Method} {c : Code} {D : va_G} {E : Nat → Nat} {b L : Nat} {xs : Nat → Int32} (X : Cx p s m #[Value.ref b] meth c cL_law 4 wsL_law RL D E (fun q => s.heap.size ≤ q)) (hX : va_X b L xs s s.heap) (hbl : b < s.heap.size) (hbA : ¬ (fun q : Nat => s.heap.size ≤ q) b) (hL : L ≤ 3072) {i : Int} (h0 : 0 ≤ i) (hi : i + 6 ≤ L) {q r : Nat → Nat} {σ τ : St} (h : Bth σ τ) (k : ∀ σ' τ', Bth σ' τ' → JG p l e room_1 s m #[Value.ref b] below meth c D (fun q => s.heap.size ≤ q) 4 (lw_Z below #[Value.ref b] s) 600000 7302250 1043 [(0, .ref b), (1, .ref (q 0)), (2, .ref (r 0)), (3, .int (jI i))] [] (CW E q τ' ++ MW E r σ')) : JG p l e room_1 s m #[Value.ref b] below meth c D (fun q => s.heap.size ≤ q) 4 (lw_Z below #[Value.ref b] s) 600000 7302250 854 [(0, .ref b), (1, .ref (q 0)), (2, .ref (r 0)), (3, .int (jI i))] [] (CW E q τ ++ MW E r σ) := by
  refine n_aload_n (pc' := 855) X dL_law_854 rfl 1 rfl rfl ?_
  refine n_callL (pc' := 858) (S := St) (As := []) (rest := []) X dL_law_855 rfl (kX5_whole l D E q τ  (h.1.1) (h.1.2.1)) (cwV 0 X.1.2.2.2.2 gL_law_X5_whole rfl rfl rfl (by decide +kernel) ⟨Nat.le_of_ble_eq_true rfl, Nat.le_of_ble_eq_true rfl⟩) 0 rfl rfl rfl rfl (Nat.le_of_ble_eq_true rfl) ⟨Nat.le_of_ble_eq_true rfl, Nat.le_of_ble_eq_true rfl⟩ (fun rA t2 h5 => ?_)
  refine n_aload_n (pc' := 859) X dL_law_858 rfl 2 rfl rfl ?_
  refine n_swap ?_
  refine n_callL (pc' := 862) (S := St) (As := []) (rest := [.long (jL rA)]) X dL_law_859 rfl (kX6_whole l D E r σ  (h.wf)) (cwV 0 X.1.2.2.2.2 gL_law_X6_whole rfl rfl rfl (by decide +kernel) ⟨Nat.le_of_ble_eq_true rfl, Nat.le_of_ble_eq_true rfl⟩) 0 rfl rfl rfl rfl (Nat.le_of_ble_eq_true rfl) ⟨Nat.le_of_ble_eq_true rfl, Nat.le_of_ble_eq_true rfl⟩ (fun rB s2 h6 => ?_)
  refine n_swap ?_
  obtain ⟨ee, hB⟩ := pm_whole h h5 h6
  subst ee
  refine n_lcmp_same (tgt := 1043) (pc1 := 863) X dL_law_862 rfl dL_law_863 (by decide) ?_
  exact k _ _ hB
