/-! ===== the law, call by call ===== -/
set_option maxHeartbeats 4000000 in
set_option maxRecDepth 100000 in
theorem law_where {p : Program} {l : Launch} {e : Env} {s : State} {m : MethodId} {below : List Frame} {meth : Method} {c : Code} {D : va_G} {E : Nat → Nat} {b L : Nat} {xs : Nat → Int32} (X : Cx p s m #[Value.ref b] meth c cL_law 4 wsL_law RL D E (fun q => s.heap.size ≤ q)) (hX : va_X b L xs s s.heap) (hbl : b < s.heap.size) (hbA : ¬ (fun q : Nat => s.heap.size ≤ q) b) (hL : L ≤ 3072) {i : Int} (h0 : 0 ≤ i) (hi : i + 6 ≤ L) {q r : Nat → Nat} {σ τ : St} (h : Bth σ τ) (k : ∀ σ' τ', Bth σ' τ' → JG p l e room_1 s m #[Value.ref b] below meth c D (fun q => s.heap.size ≤ q) 4 (lw_Z below #[Value.ref b] s) 600000 7302250 1043 [(0, .ref b), (1, .ref (q 0)), (2, .ref (r 0)), (3, .int (jI i))] [] (CW E q τ' ++ MW E r σ')) : JG p l e room_1 s m #[Value.ref b] below meth c D (fun q => s.heap.size ≤ q) 4 (lw_Z below #[Value.ref b] s) 600000 7302250 868 [(0, .ref b), (1, .ref (q 0)), (2, .ref (r 0)), (3, .int (jI i))] [] (CW E q τ ++ MW E r σ) := by
  refine n_aload_n (pc' := 869) X dL_law_868 rfl 1 rfl rfl ?_
  refine n_aload_n (pc' := 870) X dL_law_869 rfl 0 rfl rfl ?_
  refine n_iload_n (pc' := 871) X dL_law_870 rfl 3 rfl rfl ?_
  refine n_iconst (pc' := 872) X dL_law_871 rfl ?_
  refine n_iadd (pc' := 873) X dL_law_872 rfl ?_
  refine n_sld (pc' := 874) X hX hbl hbA dL_law_873 rfl hL (by omega) ?_
  refine n_aload_n (pc' := 875) X dL_law_874 rfl 0 rfl rfl ?_
  refine n_iload_n (pc' := 876) X dL_law_875 rfl 3 rfl rfl ?_
  refine n_iconst (pc' := 877) X dL_law_876 rfl ?_
  refine n_iadd (pc' := 878) X dL_law_877 rfl ?_
  refine n_sld (pc' := 879) X hX hbl hbA dL_law_878 rfl hL (by omega) ?_
  refine n_callI (pc' := 882) (S := St) (As := [.int (jI (sx xs (i + 1))), .int (jI (sx xs (i + 2)))]) (rest := []) X dL_law_879 rfl (kX5_where l D E q τ (sx xs (i + 1)) (sx xs (i + 2)) (h.1.1) (h.1.2.1) ⟨sx_r _ _, sx_r _ _⟩) (cwV 2 X.1.2.2.2.2 gL_law_X5_where rfl rfl rfl (by decide +kernel) ⟨Nat.le_of_ble_eq_true rfl, Nat.le_of_ble_eq_true rfl⟩) 0 rfl rfl rfl rfl (Nat.le_of_ble_eq_true rfl) ⟨Nat.le_of_ble_eq_true rfl, Nat.le_of_ble_eq_true rfl⟩ (fun rA t2 h5 => ?_)
  refine n_aload_n (pc' := 883) X dL_law_882 rfl 2 rfl rfl ?_
  refine n_aload_n (pc' := 884) X dL_law_883 rfl 0 rfl rfl ?_
  refine n_iload_n (pc' := 885) X dL_law_884 rfl 3 rfl rfl ?_
  refine n_iconst (pc' := 886) X dL_law_885 rfl ?_
  refine n_iadd (pc' := 887) X dL_law_886 rfl ?_
  refine n_sld (pc' := 888) X hX hbl hbA dL_law_887 rfl hL (by omega) ?_
  refine n_aload_n (pc' := 889) X dL_law_888 rfl 0 rfl rfl ?_
  refine n_iload_n (pc' := 890) X dL_law_889 rfl 3 rfl rfl ?_
  refine n_iconst (pc' := 891) X dL_law_890 rfl ?_
  refine n_iadd (pc' := 892) X dL_law_891 rfl ?_
  refine n_sld (pc' := 893) X hX hbl hbA dL_law_892 rfl hL (by omega) ?_
  refine n_swap ?_
  refine n_callI (pc' := 896) (S := St) (As := [.int (jI (sx xs (i + 1))), .int (jI (sx xs (i + 2)))]) (rest := [.int (jI rA)]) X dL_law_893 rfl (kX6_where l D E r σ (sx xs (i + 1)) (sx xs (i + 2)) (h.wf) ⟨sx_r _ _, sx_r _ _⟩) (cwV 2 X.1.2.2.2.2 gL_law_X6_where rfl rfl rfl (by decide +kernel) ⟨Nat.le_of_ble_eq_true rfl, Nat.le_of_ble_eq_true rfl⟩) 0 rfl rfl rfl rfl (Nat.le_of_ble_eq_true rfl) ⟨Nat.le_of_ble_eq_true rfl, Nat.le_of_ble_eq_true rfl⟩ (fun rB s2 h6 => ?_)
  refine n_swap ?_
  obtain ⟨ee, hB⟩ := pm_where h h5 h6
  subst ee
  refine n_icmp_same (tgt := 1043) X dL_law_896 (by decide) ?_
  exact k _ _ hB
set_option maxHeartbeats 4000000 in
set_option maxRecDepth 100000 in
theorem law_within {p : Program} {l : Launch} {e : Env} {s : State} {m : MethodId} {below : List Frame} {meth : Method} {c : Code} {D : va_G} {E : Nat → Nat} {b L : Nat} {xs : Nat → Int32} (X : Cx p s m #[Value.ref b] meth c cL_law 4 wsL_law RL D E (fun q => s.heap.size ≤ q)) (hX : va_X b L xs s s.heap) (hbl : b < s.heap.size) (hbA : ¬ (fun q : Nat => s.heap.size ≤ q) b) (hL : L ≤ 3072) {i : Int} (h0 : 0 ≤ i) (hi : i + 6 ≤ L) {q r : Nat → Nat} {σ τ : St} (h : Bth σ τ) (k : ∀ σ' τ', Bth σ' τ' → JG p l e room_1 s m #[Value.ref b] below meth c D (fun q => s.heap.size ≤ q) 4 (lw_Z below #[Value.ref b] s) 600000 7302250 1043 [(0, .ref b), (1, .ref (q 0)), (2, .ref (r 0)), (3, .int (jI i))] [] (CW E q τ' ++ MW E r σ')) : JG p l e room_1 s m #[Value.ref b] below meth c D (fun q => s.heap.size ≤ q) 4 (lw_Z below #[Value.ref b] s) 600000 7302250 901 [(0, .ref b), (1, .ref (q 0)), (2, .ref (r 0)), (3, .int (jI i))] [] (CW E q τ ++ MW E r σ) := by
  refine n_aload_n (pc' := 902) X dL_law_901 rfl 1 rfl rfl ?_
  refine n_aload_n (pc' := 903) X dL_law_902 rfl 0 rfl rfl ?_
  refine n_iload_n (pc' := 904) X dL_law_903 rfl 3 rfl rfl ?_
  refine n_iconst (pc' := 905) X dL_law_904 rfl ?_
  refine n_iadd (pc' := 906) X dL_law_905 rfl ?_
  refine n_sld (pc' := 907) X hX hbl hbA dL_law_906 rfl hL (by omega) ?_
  refine n_callI (pc' := 910) (S := St) (As := [.int (jI (sx xs (i + 1)))]) (rest := []) X dL_law_907 rfl (kX5_within l D E q τ (sx xs (i + 1)) (h.1.1) (h.1.2.1) (sx_r _ _)) (cwV 1 X.1.2.2.2.2 gL_law_X5_within rfl rfl rfl (by decide +kernel) ⟨Nat.le_of_ble_eq_true rfl, Nat.le_of_ble_eq_true rfl⟩) 0 rfl rfl rfl rfl (Nat.le_of_ble_eq_true rfl) ⟨Nat.le_of_ble_eq_true rfl, Nat.le_of_ble_eq_true rfl⟩ (fun rA t2 h5 => ?_)
  refine n_aload_n (pc' := 911) X dL_law_910 rfl 2 rfl rfl ?_
  refine n_aload_n (pc' := 912) X dL_law_911 rfl 0 rfl rfl ?_
  refine n_iload_n (pc' := 913) X dL_law_912 rfl 3 rfl rfl ?_
  refine n_iconst (pc' := 914) X dL_law_913 rfl ?_
  refine n_iadd (pc' := 915) X dL_law_914 rfl ?_
  refine n_sld (pc' := 916) X hX hbl hbA dL_law_915 rfl hL (by omega) ?_
  refine n_swap ?_
  refine n_callI (pc' := 919) (S := St) (As := [.int (jI (sx xs (i + 1)))]) (rest := [.int (jI rA)]) X dL_law_916 rfl (kX6_within l D E r σ (sx xs (i + 1)) (h.wf) (sx_r _ _)) (cwV 1 X.1.2.2.2.2 gL_law_X6_within rfl rfl rfl (by decide +kernel) ⟨Nat.le_of_ble_eq_true rfl, Nat.le_of_ble_eq_true rfl⟩) 0 rfl rfl rfl rfl (Nat.le_of_ble_eq_true rfl) ⟨Nat.le_of_ble_eq_true rfl, Nat.le_of_ble_eq_true rfl⟩ (fun rB s2 h6 => ?_)
  refine n_swap ?_
  obtain ⟨ee, hB⟩ := pm_within h h5 h6
  subst ee
  refine n_icmp_same (tgt := 1043) X dL_law_919 (by decide) ?_
  exact k _ _ hB
set_option maxHeartbeats 4000000 in
set_option maxRecDepth 100000 in
theorem law_pivot {p : Program} {l : Launch} {e : Env} {s : State} {m : MethodId} {below : List Frame} {meth : Method} {c : Code} {D : va_G} {E : Nat → Nat} {b L : Nat} {xs : Nat → Int32} (X : Cx p s m #[Value.ref b] meth c cL_law 4 wsL_law RL D E (fun q => s.heap.size ≤ q)) (hX : va_X b L xs s s.heap) (hbl : b < s.heap.size) (hbA : ¬ (fun q : Nat => s.heap.size ≤ q) b) (hL : L ≤ 3072) {i : Int} (h0 : 0 ≤ i) (hi : i + 6 ≤ L) {q r : Nat → Nat} {σ τ : St} (h : Bth σ τ) (k : ∀ σ' τ', Bth σ' τ' → JG p l e room_1 s m #[Value.ref b] below meth c D (fun q => s.heap.size ≤ q) 4 (lw_Z below #[Value.ref b] s) 600000 7302250 1043 [(0, .ref b), (1, .ref (q 0)), (2, .ref (r 0)), (3, .int (jI i))] [] (CW E q τ' ++ MW E r σ')) : JG p l e room_1 s m #[Value.ref b] below meth c D (fun q => s.heap.size ≤ q) 4 (lw_Z below #[Value.ref b] s) 600000 7302250 924 [(0, .ref b), (1, .ref (q 0)), (2, .ref (r 0)), (3, .int (jI i))] [] (CW E q τ ++ MW E r σ) := by
  refine n_aload_n (pc' := 925) X dL_law_924 rfl 1 rfl rfl ?_
  refine n_aload_n (pc' := 926) X dL_law_925 rfl 0 rfl rfl ?_
  refine n_iload_n (pc' := 927) X dL_law_926 rfl 3 rfl rfl ?_
  refine n_iconst (pc' := 928) X dL_law_927 rfl ?_
  refine n_iadd (pc' := 929) X dL_law_928 rfl ?_
  refine n_sld (pc' := 930) X hX hbl hbA dL_law_929 rfl hL (by omega) ?_
  refine n_aload_n (pc' := 931) X dL_law_930 rfl 0 rfl rfl ?_
  refine n_iload_n (pc' := 932) X dL_law_931 rfl 3 rfl rfl ?_
  refine n_iconst (pc' := 933) X dL_law_932 rfl ?_
  refine n_iadd (pc' := 934) X dL_law_933 rfl ?_
  refine n_sld (pc' := 935) X hX hbl hbA dL_law_934 rfl hL (by omega) ?_
  refine n_aload_n (pc' := 936) X dL_law_935 rfl 0 rfl rfl ?_
  refine n_iload_n (pc' := 937) X dL_law_936 rfl 3 rfl rfl ?_
  refine n_iconst (pc' := 938) X dL_law_937 rfl ?_
  refine n_iadd (pc' := 939) X dL_law_938 rfl ?_
  refine n_sld (pc' := 940) X hX hbl hbA dL_law_939 rfl hL (by omega) ?_
  refine n_callI (pc' := 943) (S := St) (As := [.int (jI (sx xs (i + 1))), .int (jI (sx xs (i + 2))), .int (jI (sx xs (i + 3)))]) (rest := []) X dL_law_940 rfl (kX5_pivot l D E q τ (sx xs (i + 1)) (sx xs (i + 2)) (sx xs (i + 3)) (h.1.1) (h.1.2.1) ⟨sx_r _ _, sx_r _ _, sx_r _ _⟩) (cwV 3 X.1.2.2.2.2 gL_law_X5_pivot rfl rfl rfl (by decide +kernel) ⟨Nat.le_of_ble_eq_true rfl, Nat.le_of_ble_eq_true rfl⟩) 0 rfl rfl rfl rfl (Nat.le_of_ble_eq_true rfl) ⟨Nat.le_of_ble_eq_true rfl, Nat.le_of_ble_eq_true rfl⟩ (fun rA t2 h5 => ?_)
  refine n_aload_n (pc' := 944) X dL_law_943 rfl 2 rfl rfl ?_
  refine n_aload_n (pc' := 945) X dL_law_944 rfl 0 rfl rfl ?_
  refine n_iload_n (pc' := 946) X dL_law_945 rfl 3 rfl rfl ?_
  refine n_iconst (pc' := 947) X dL_law_946 rfl ?_
  refine n_iadd (pc' := 948) X dL_law_947 rfl ?_
  refine n_sld (pc' := 949) X hX hbl hbA dL_law_948 rfl hL (by omega) ?_
  refine n_aload_n (pc' := 950) X dL_law_949 rfl 0 rfl rfl ?_
  refine n_iload_n (pc' := 951) X dL_law_950 rfl 3 rfl rfl ?_
  refine n_iconst (pc' := 952) X dL_law_951 rfl ?_
  refine n_iadd (pc' := 953) X dL_law_952 rfl ?_
  refine n_sld (pc' := 954) X hX hbl hbA dL_law_953 rfl hL (by omega) ?_
  refine n_aload_n (pc' := 955) X dL_law_954 rfl 0 rfl rfl ?_
  refine n_iload_n (pc' := 956) X dL_law_955 rfl 3 rfl rfl ?_
  refine n_iconst (pc' := 957) X dL_law_956 rfl ?_
  refine n_iadd (pc' := 958) X dL_law_957 rfl ?_
  refine n_sld (pc' := 959) X hX hbl hbA dL_law_958 rfl hL (by omega) ?_
  refine n_swap ?_
  refine n_callI (pc' := 962) (S := St) (As := [.int (jI (sx xs (i + 1))), .int (jI (sx xs (i + 2))), .int (jI (sx xs (i + 3)))]) (rest := [.int (jI rA)]) X dL_law_959 rfl (kX6_pivot l D E r σ (sx xs (i + 1)) (sx xs (i + 2)) (sx xs (i + 3)) (h.wf) ⟨sx_r _ _, sx_r _ _, sx_r _ _⟩) (cwV 3 X.1.2.2.2.2 gL_law_X6_pivot rfl rfl rfl (by decide +kernel) ⟨Nat.le_of_ble_eq_true rfl, Nat.le_of_ble_eq_true rfl⟩) 0 rfl rfl rfl rfl (Nat.le_of_ble_eq_true rfl) ⟨Nat.le_of_ble_eq_true rfl, Nat.le_of_ble_eq_true rfl⟩ (fun rB s2 h6 => ?_)
  refine n_swap ?_
  obtain ⟨ee, hB⟩ := pm_pivot h h5 h6
  subst ee
  refine n_icmp_same (tgt := 1043) X dL_law_962 (by decide) ?_
  exact k _ _ hB
set_option maxHeartbeats 4000000 in
set_option maxRecDepth 100000 in
theorem law_pivots {p : Program} {l : Launch} {e : Env} {s : State} {m : MethodId} {below : List Frame} {meth : Method} {c : Code} {D : va_G} {E : Nat → Nat} {b L : Nat} {xs : Nat → Int32} (X : Cx p s m #[Value.ref b] meth c cL_law 4 wsL_law RL D E (fun q => s.heap.size ≤ q)) (hX : va_X b L xs s s.heap) (hbl : b < s.heap.size) (hbA : ¬ (fun q : Nat => s.heap.size ≤ q) b) (hL : L ≤ 3072) {i : Int} (h0 : 0 ≤ i) (hi : i + 6 ≤ L) {q r : Nat → Nat} {σ τ : St} (h : Bth σ τ) (k : ∀ σ' τ', Bth σ' τ' → JG p l e room_1 s m #[Value.ref b] below meth c D (fun q => s.heap.size ≤ q) 4 (lw_Z below #[Value.ref b] s) 600000 7302250 1043 [(0, .ref b), (1, .ref (q 0)), (2, .ref (r 0)), (3, .int (jI i))] [] (CW E q τ' ++ MW E r σ')) : JG p l e room_1 s m #[Value.ref b] below meth c D (fun q => s.heap.size ≤ q) 4 (lw_Z below #[Value.ref b] s) 600000 7302250 967 [(0, .ref b), (1, .ref (q 0)), (2, .ref (r 0)), (3, .int (jI i))] [] (CW E q τ ++ MW E r σ) := by
  refine n_aload_n (pc' := 968) X dL_law_967 rfl 1 rfl rfl ?_
  refine n_aload_n (pc' := 969) X dL_law_968 rfl 0 rfl rfl ?_
  refine n_iload_n (pc' := 970) X dL_law_969 rfl 3 rfl rfl ?_
  refine n_iconst (pc' := 971) X dL_law_970 rfl ?_
  refine n_iadd (pc' := 972) X dL_law_971 rfl ?_
  refine n_sld (pc' := 973) X hX hbl hbA dL_law_972 rfl hL (by omega) ?_
  refine n_aload_n (pc' := 974) X dL_law_973 rfl 0 rfl rfl ?_
  refine n_iload_n (pc' := 975) X dL_law_974 rfl 3 rfl rfl ?_
  refine n_iconst (pc' := 976) X dL_law_975 rfl ?_
  refine n_iadd (pc' := 977) X dL_law_976 rfl ?_
  refine n_sld (pc' := 978) X hX hbl hbA dL_law_977 rfl hL (by omega) ?_
  refine n_aload_n (pc' := 979) X dL_law_978 rfl 0 rfl rfl ?_
  refine n_iload_n (pc' := 980) X dL_law_979 rfl 3 rfl rfl ?_
  refine n_iconst (pc' := 981) X dL_law_980 rfl ?_
  refine n_iadd (pc' := 982) X dL_law_981 rfl ?_
  refine n_sld (pc' := 983) X hX hbl hbA dL_law_982 rfl hL (by omega) ?_
  refine n_aload_n (pc' := 984) X dL_law_983 rfl 0 rfl rfl ?_
  refine n_iload_n (pc' := 985) X dL_law_984 rfl 3 rfl rfl ?_
  refine n_iconst (pc' := 986) X dL_law_985 rfl ?_
  refine n_iadd (pc' := 987) X dL_law_986 rfl ?_
  refine n_sld (pc' := 988) X hX hbl hbA dL_law_987 rfl hL (by omega) ?_
  refine n_callI (pc' := 991) (S := St) (As := [.int (jI (sx xs (i + 1))), .int (jI (sx xs (i + 2))), .int (jI (sx xs (i + 3))), .int (jI (sx xs (i + 4)))]) (rest := []) X dL_law_988 rfl (kX5_pivots l D E q τ (sx xs (i + 1)) (sx xs (i + 2)) (sx xs (i + 3)) (sx xs (i + 4)) ⟨sx_r _ _, sx_r _ _, sx_r _ _, sx_r _ _⟩ (h.1.2.2.2)) (cwV 4 X.1.2.2.2.2 gL_law_X5_pivots rfl rfl rfl (by decide +kernel) ⟨Nat.le_of_ble_eq_true rfl, Nat.le_of_ble_eq_true rfl⟩) 0 rfl rfl rfl rfl (Nat.le_of_ble_eq_true rfl) ⟨Nat.le_of_ble_eq_true rfl, Nat.le_of_ble_eq_true rfl⟩ (fun rA t2 h5 => ?_)
  refine n_aload_n (pc' := 992) X dL_law_991 rfl 2 rfl rfl ?_
  refine n_aload_n (pc' := 993) X dL_law_992 rfl 0 rfl rfl ?_
  refine n_iload_n (pc' := 994) X dL_law_993 rfl 3 rfl rfl ?_
  refine n_iconst (pc' := 995) X dL_law_994 rfl ?_
  refine n_iadd (pc' := 996) X dL_law_995 rfl ?_
  refine n_sld (pc' := 997) X hX hbl hbA dL_law_996 rfl hL (by omega) ?_
  refine n_aload_n (pc' := 998) X dL_law_997 rfl 0 rfl rfl ?_
  refine n_iload_n (pc' := 999) X dL_law_998 rfl 3 rfl rfl ?_
  refine n_iconst (pc' := 1000) X dL_law_999 rfl ?_
  refine n_iadd (pc' := 1001) X dL_law_1000 rfl ?_
  refine n_sld (pc' := 1002) X hX hbl hbA dL_law_1001 rfl hL (by omega) ?_
  refine n_aload_n (pc' := 1003) X dL_law_1002 rfl 0 rfl rfl ?_
  refine n_iload_n (pc' := 1004) X dL_law_1003 rfl 3 rfl rfl ?_
  refine n_iconst (pc' := 1005) X dL_law_1004 rfl ?_
  refine n_iadd (pc' := 1006) X dL_law_1005 rfl ?_
  refine n_sld (pc' := 1007) X hX hbl hbA dL_law_1006 rfl hL (by omega) ?_
  refine n_aload_n (pc' := 1008) X dL_law_1007 rfl 0 rfl rfl ?_
  refine n_iload_n (pc' := 1009) X dL_law_1008 rfl 3 rfl rfl ?_
  refine n_iconst (pc' := 1010) X dL_law_1009 rfl ?_
  refine n_iadd (pc' := 1011) X dL_law_1010 rfl ?_
  refine n_sld (pc' := 1012) X hX hbl hbA dL_law_1011 rfl hL (by omega) ?_
  refine n_swap ?_
  refine n_callI (pc' := 1015) (S := St) (As := [.int (jI (sx xs (i + 1))), .int (jI (sx xs (i + 2))), .int (jI (sx xs (i + 3))), .int (jI (sx xs (i + 4)))]) (rest := [.int (jI rA)]) X dL_law_1012 rfl (kX6_pivots l D E r σ (sx xs (i + 1)) (sx xs (i + 2)) (sx xs (i + 3)) (sx xs (i + 4)) ⟨sx_r _ _, sx_r _ _, sx_r _ _, sx_r _ _⟩) (cwV 4 X.1.2.2.2.2 gL_law_X6_pivots rfl rfl rfl (by decide +kernel) ⟨Nat.le_of_ble_eq_true rfl, Nat.le_of_ble_eq_true rfl⟩) 0 rfl rfl rfl rfl (Nat.le_of_ble_eq_true rfl) ⟨Nat.le_of_ble_eq_true rfl, Nat.le_of_ble_eq_true rfl⟩ (fun rB s2 h6 => ?_)
  refine n_swap ?_
  obtain ⟨ee, hB⟩ := pm_pivots h h5 h6
  subst ee
  refine n_icmp_same (tgt := 1043) X dL_law_1015 (by decide) ?_
  exact k _ _ hB
set_option maxHeartbeats 4000000 in
set_option maxRecDepth 100000 in
theorem law_many {p : Program} {l : Launch} {e : Env} {s : State} {m : MethodId} {below : List Frame} {meth : Method} {c : Code} {D : va_G} {E : Nat → Nat} {b L : Nat} {xs : Nat → Int32} (X : Cx p s m #[Value.ref b] meth c cL_law 4 wsL_law RL D E (fun q => s.heap.size ≤ q)) (hX : va_X b L xs s s.heap) (hbl : b < s.heap.size) (hbA : ¬ (fun q : Nat => s.heap.size ≤ q) b) (hL : L ≤ 3072) {i : Int} (h0 : 0 ≤ i) (hi : i + 6 ≤ L) {q r : Nat → Nat} {σ τ : St} (h : Bth σ τ) (k : ∀ σ' τ', Bth σ' τ' → JG p l e room_1 s m #[Value.ref b] below meth c D (fun q => s.heap.size ≤ q) 4 (lw_Z below #[Value.ref b] s) 600000 7302250 1043 [(0, .ref b), (1, .ref (q 0)), (2, .ref (r 0)), (3, .int (jI i))] [] (CW E q τ' ++ MW E r σ')) : JG p l e room_1 s m #[Value.ref b] below meth c D (fun q => s.heap.size ≤ q) 4 (lw_Z below #[Value.ref b] s) 600000 7302250 1020 [(0, .ref b), (1, .ref (q 0)), (2, .ref (r 0)), (3, .int (jI i))] [] (CW E q τ ++ MW E r σ) := by
  refine n_aload_n (pc' := 1021) X dL_law_1020 rfl 1 rfl rfl ?_
  refine n_aload_n (pc' := 1022) X dL_law_1021 rfl 0 rfl rfl ?_
  refine n_iload_n (pc' := 1023) X dL_law_1022 rfl 3 rfl rfl ?_
  refine n_iconst (pc' := 1024) X dL_law_1023 rfl ?_
  refine n_iadd (pc' := 1025) X dL_law_1024 rfl ?_
  refine n_sld (pc' := 1026) X hX hbl hbA dL_law_1025 rfl hL (by omega) ?_
  refine n_callI (pc' := 1029) (S := St) (As := [.int (jI (sx xs (i + 1)))]) (rest := []) X dL_law_1026 rfl (kX5_many l D E q τ (sx xs (i + 1)) (h.1.1) (h.1.2.1) (sx_r _ _)) (cwV 1 X.1.2.2.2.2 gL_law_X5_many rfl rfl rfl (by decide +kernel) ⟨Nat.le_of_ble_eq_true rfl, Nat.le_of_ble_eq_true rfl⟩) 0 rfl rfl rfl rfl (Nat.le_of_ble_eq_true rfl) ⟨Nat.le_of_ble_eq_true rfl, Nat.le_of_ble_eq_true rfl⟩ (fun rA t2 h5 => ?_)
  refine n_aload_n (pc' := 1030) X dL_law_1029 rfl 2 rfl rfl ?_
  refine n_aload_n (pc' := 1031) X dL_law_1030 rfl 0 rfl rfl ?_
  refine n_iload_n (pc' := 1032) X dL_law_1031 rfl 3 rfl rfl ?_
  refine n_iconst (pc' := 1033) X dL_law_1032 rfl ?_
  refine n_iadd (pc' := 1034) X dL_law_1033 rfl ?_
  refine n_sld (pc' := 1035) X hX hbl hbA dL_law_1034 rfl hL (by omega) ?_
  refine n_swap ?_
  refine n_callI (pc' := 1038) (S := St) (As := [.int (jI (sx xs (i + 1)))]) (rest := [.int (jI rA)]) X dL_law_1035 rfl (kX6_many l D E r σ (sx xs (i + 1)) (h.wf) (sx_r _ _)) (cwV 1 X.1.2.2.2.2 gL_law_X6_many rfl rfl rfl (by decide +kernel) ⟨Nat.le_of_ble_eq_true rfl, Nat.le_of_ble_eq_true rfl⟩) 0 rfl rfl rfl rfl (Nat.le_of_ble_eq_true rfl) ⟨Nat.le_of_ble_eq_true rfl, Nat.le_of_ble_eq_true rfl⟩ (fun rB s2 h6 => ?_)
  refine n_swap ?_
  obtain ⟨ee, hB⟩ := pm_many h h5 h6
  subst ee
  refine n_icmp_same (tgt := 1043) X dL_law_1038 (by decide) ?_
  exact k _ _ hB
