/-! ===== the law, its loop ===== -/
set_option maxHeartbeats 4000000 in
set_option maxRecDepth 100000 in
theorem law_loop {p : Program} {l : Launch} {e : Env} {s : State} {m : MethodId} {below : List Frame} {meth : Method} {c : Code} {D : va_G} {E : Nat → Nat} {b L : Nat} {xs : Nat → Int32} (X : Cx p s m #[Value.ref b] meth c cL_law 4 wsL_law RL D E (fun q => s.heap.size ≤ q)) (hX : va_X b L xs s s.heap) (hbl : b < s.heap.size) (hbA : ¬ (fun q : Nat => s.heap.size ≤ q) b) (hL : L ≤ 3072) (hr : meth.sig.returnType = ret) {q r : Nat → Nat} : ∀ (n : Nat) (i : Int) (σ τ : St), 0 ≤ i → i ≤ L → (L : Int) < i + 6 * n → Bth σ τ → JG p l e room_1 s m #[Value.ref b] below meth c D (fun q => s.heap.size ≤ q) 4 (lw_Z below #[Value.ref b] s) 600000 7302250 18 [(0, .ref b), (1, .ref (q 0)), (2, .ref (r 0)), (3, .int (jI i))] [] (CW E q τ ++ MW E r σ) := by
  intro n
  induction n with
  | zero =>
    intro i σ τ h0 h1 h2
    exact absurd h1 (by omega)
  | succ n ih =>
    intro i σ τ h0 h1 h2 h
    refine n_iload_n (pc' := 19) X dL_law_18 rfl 3 rfl rfl ?_
    refine n_aload_n (pc' := 20) X dL_law_19 rfl 0 rfl rfl ?_
    refine n_slen (pc' := 21) X hX hbl hbA dL_law_20 rfl ?_
    refine n_bipush (pc' := 23) X dL_law_21 rfl rfl ?_
    refine n_isub (pc' := 24) X dL_law_23 rfl ?_
    refine n_icmp_gt (tgt := 1049) (pc' := 27) X dL_law_24 (by decide) rfl (by omega) (fun hc => ?_) (fun hc => ?_)
    · refine n_iconst (pc' := 1050) X dL_law_1049 rfl ?_
      exact n_ret1 X hr dL_law_1050
    have hi : i + 6 ≤ L := by omega
    have kk : ∀ σ' τ', Bth σ' τ' → JG p l e room_1 s m #[Value.ref b] below meth c D (fun q => s.heap.size ≤ q) 4 (lw_Z below #[Value.ref b] s) 600000 7302250 1043 [(0, .ref b), (1, .ref (q 0)), (2, .ref (r 0)), (3, .int (jI i))] [] (CW E q τ' ++ MW E r σ') := by
      intro σ' τ' h'
      refine n_iinc (pc' := 1046) (lv' := [(3, .int (jI (i + 6))), (0, .ref b), (1, .ref (q 0)), (2, .ref (r 0))]) X dL_law_1043 rfl 3 rfl (by decide) rfl ?_
      refine n_goto (tgt := 18) X dL_law_1046 (by decide) ?_
      refine n_lv (lv' := [(0, .ref b), (1, .ref (q 0)), (2, .ref (r 0)), (3, .int (jI (i + 6)))]) [1, 2, 3, 0] rfl ?_
      exact ih (i + 6) σ' τ' (by omega) hi (by omega) h'
    refine n_aload_n (pc' := 28) X dL_law_27 rfl 0 rfl rfl ?_
    refine n_iload_n (pc' := 29) X dL_law_28 rfl 3 rfl rfl ?_
    refine n_sld (pc' := 30) X hX hbl hbA dL_law_29 rfl hL (by omega) ?_
    refine n_bipush (pc' := 32) X dL_law_30 rfl rfl ?_
    refine n_and31 (pc' := 33) X dL_law_32 rfl (fun y hy => ?_)
    by_cases hd : 28 < y
    · refine n_tableOut (tgt := 1043) X dL_law_33 (by decide) (by omega) (Or.inr hd) ?_
      exact kk σ τ h
    by_cases y0 : y = 0
    · subst y0
      refine n_tableIn (off := 131) (tgt := 164) X dL_law_33 (by decide) (by decide) (by decide) rfl ?_
      exact law_section X hX hbl hbA hL h0 hi h kk
    by_cases y1 : y = 1
    · subst y1
      refine n_tableIn (off := 154) (tgt := 187) X dL_law_33 (by decide) (by decide) (by decide) rfl ?_
      exact law_beats X hX hbl hbA hL h0 hi h kk
    by_cases y2 : y = 2
    · subst y2
      refine n_tableIn (off := 187) (tgt := 220) X dL_law_33 (by decide) (by decide) (by decide) rfl ?_
      exact law_start X hX hbl hbA hL h0 hi h kk
    by_cases y3 : y = 3
    · subst y3
      refine n_tableIn (off := 210) (tgt := 243) X dL_law_33 (by decide) (by decide) (by decide) rfl ?_
      exact law_tie X hX hbl hbA hL h0 hi h kk
    by_cases y4 : y = 4
    · subst y4
      refine n_tableIn (off := 273) (tgt := 306) X dL_law_33 (by decide) (by decide) (by decide) rfl ?_
      exact law_ear X hX hbl hbA hL h0 hi h kk
    by_cases y5 : y = 5
    · subst y5
      refine n_tableIn (off := 306) (tgt := 339) X dL_law_33 (by decide) (by decide) (by decide) rfl ?_
      exact law_untie X hX hbl hbA hL h0 hi h kk
    by_cases y6 : y = 6
    · subst y6
      refine n_tableIn (off := 329) (tgt := 362) X dL_law_33 (by decide) (by decide) (by decide) rfl ?_
      exact law_clear X hX hbl hbA hL h0 hi h kk
    by_cases y7 : y = 7
    · subst y7
      refine n_tableIn (off := 342) (tgt := 375) X dL_law_33 (by decide) (by decide) (by decide) rfl ?_
      exact law_ticks X hX hbl hbA hL h0 hi h kk
    by_cases y8 : y = 8
    · subst y8
      refine n_tableIn (off := 365) (tgt := 398) X dL_law_33 (by decide) (by decide) (by decide) rfl ?_
      exact law_ofSection X hX hbl hbA hL h0 hi h kk
    by_cases y9 : y = 9
    · subst y9
      refine n_tableIn (off := 398) (tgt := 431) X dL_law_33 (by decide) (by decide) (by decide) rfl ?_
      exact law_ofTie X hX hbl hbA hL h0 hi h kk
    by_cases y10 : y = 10
    · subst y10
      refine n_tableIn (off := 431) (tgt := 464) X dL_law_33 (by decide) (by decide) (by decide) rfl ?_
      exact law_tempo X hX hbl hbA hL h0 hi h kk
    by_cases y11 : y = 11
    · subst y11
      refine n_tableIn (off := 465) (tgt := 498) X dL_law_33 (by decide) (by decide) (by decide) rfl ?_
      exact law_ratio X hX hbl hbA hL h0 hi h kk
    by_cases y12 : y = 12
    · subst y12
      refine n_tableIn (off := 509) (tgt := 542) X dL_law_33 (by decide) (by decide) (by decide) rfl ?_
      exact law_off X hX hbl hbA hL h0 hi h kk
    by_cases y13 : y = 13
    · subst y13
      refine n_tableIn (off := 543) (tgt := 576) X dL_law_33 (by decide) (by decide) (by decide) rfl ?_
      exact law_ring X hX hbl hbA hL h0 hi h kk
    by_cases y14 : y = 14
    · subst y14
      refine n_tableIn (off := 566) (tgt := 599) X dL_law_33 (by decide) (by decide) (by decide) rfl ?_
      exact law_mark X hX hbl hbA hL h0 hi h kk
    by_cases y15 : y = 15
    · subst y15
      refine n_tableIn (off := 615) (tgt := 648) X dL_law_33 (by decide) (by decide) (by decide) rfl ?_
      exact law_markAt X hX hbl hbA hL h0 hi h kk
    by_cases y16 : y = 16
    · subst y16
      refine n_tableIn (off := 638) (tgt := 671) X dL_law_33 (by decide) (by decide) (by decide) rfl ?_
      exact law_nearest X hX hbl hbA hL h0 hi h kk
    by_cases y17 : y = 17
    · subst y17
      refine n_tableIn (off := 661) (tgt := 694) X dL_law_33 (by decide) (by decide) (by decide) rfl ?_
      exact law_away X hX hbl hbA hL h0 hi h kk
    by_cases y18 : y = 18
    · subst y18
      refine n_tableIn (off := 695) (tgt := 728) X dL_law_33 (by decide) (by decide) (by decide) rfl ?_
      exact law_pin X hX hbl hbA hL h0 hi h kk
    by_cases y19 : y = 19
    · subst y19
      refine n_tableIn (off := 728) (tgt := 761) X dL_law_33 (by decide) (by decide) (by decide) rfl ?_
      exact law_harm X hX hbl hbA hL h0 hi h kk
    by_cases y20 : y = 20
    · subst y20
      refine n_tableIn (off := 741) (tgt := 774) X dL_law_33 (by decide) (by decide) (by decide) rfl ?_
      exact law_play X hX hbl hbA hL h0 hi h kk
    by_cases y21 : y = 21
    · subst y21
      refine n_tableIn (off := 764) (tgt := 797) X dL_law_33 (by decide) (by decide) (by decide) rfl ?_
      exact law_drift X hX hbl hbA hL h0 hi h kk
    by_cases y22 : y = 22
    · subst y22
      refine n_tableIn (off := 787) (tgt := 820) X dL_law_33 (by decide) (by decide) (by decide) rfl ?_
      exact law_clock X hX hbl hbA hL h0 hi h kk
    by_cases y23 : y = 23
    · subst y23
      refine n_tableIn (off := 821) (tgt := 854) X dL_law_33 (by decide) (by decide) (by decide) rfl ?_
      exact law_whole X hX hbl hbA hL h0 hi h kk
    by_cases y24 : y = 24
    · subst y24
      refine n_tableIn (off := 835) (tgt := 868) X dL_law_33 (by decide) (by decide) (by decide) rfl ?_
      exact law_where X hX hbl hbA hL h0 hi h kk
    by_cases y25 : y = 25
    · subst y25
      refine n_tableIn (off := 868) (tgt := 901) X dL_law_33 (by decide) (by decide) (by decide) rfl ?_
      exact law_within X hX hbl hbA hL h0 hi h kk
    by_cases y26 : y = 26
    · subst y26
      refine n_tableIn (off := 891) (tgt := 924) X dL_law_33 (by decide) (by decide) (by decide) rfl ?_
      exact law_pivot X hX hbl hbA hL h0 hi h kk
    by_cases y27 : y = 27
    · subst y27
      refine n_tableIn (off := 934) (tgt := 967) X dL_law_33 (by decide) (by decide) (by decide) rfl ?_
      exact law_pivots X hX hbl hbA hL h0 hi h kk
    · have y28 : y = 28 := by omega
      subst y28
      refine n_tableIn (off := 987) (tgt := 1020) X dL_law_33 (by decide) (by decide) (by decide) rfl ?_
      exact law_many X hX hbl hbA hL h0 hi h kk
