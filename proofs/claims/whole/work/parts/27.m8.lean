theorem ne16 {u σ : St} (h : ∀ F, F ≠ 16 → u F = σ F) (hwf : WfM σ) : WfM u := eqM.wf ⟨h 0 (by decide), h 1 (by decide), h 2 (by decide), h 3 (by decide), h 4 (by decide), h 5 (by decide), h 13 (by decide), h 14 (by decide)⟩ hwf
theorem ho_rng {σ : St} {k s oth : Int} (h : oth = if mB σ k = s then mA σ k else mB σ k) (hs : s = mA σ k ∨ s = mB σ k) (ht : (0 ≤ σ 5 (5 * k) ∧ σ 5 (5 * k) < σ 0 0) ∧ (0 ≤ σ 5 (5 * k + 1) ∧ σ 5 (5 * k + 1) < 20) ∧ (0 ≤ σ 5 (5 * k + 2) ∧ σ 5 (5 * k + 2) < σ 0 0) ∧ (0 ≤ σ 5 (5 * k + 3) ∧ σ 5 (5 * k + 3) < 20) ∧ (0 ≤ σ 5 (5 * k + 4) ∧ σ 5 (5 * k + 4) ≤ 9) ∧ σ 5 (5 * k) ≠ σ 5 (5 * k + 2)) : (0 ≤ oth ∧ oth < σ 0 0) ∧ oth ≠ s := by
  have eA : mA σ k = σ 5 (5 * k) := rfl
  have eB : mB σ k = σ 5 (5 * k + 2) := rfl
  by_cases q : mB σ k = s
  · rw [if_pos q] at h; omega
  · rw [if_neg q] at h; omega
theorem hg_step {σ u1 : St} {oth m z : Int} {M : Int → Int} (hm : 0 ≤ m) (h3 : ∀ y, u1 16 y = if 16 * oth ≤ y ∧ y < 16 * oth + m then M y else σ 16 y) (hz : z = M (16 * oth + m)) (y : Int) : up u1 16 (16 * oth + m) z 16 y = if 16 * oth ≤ y ∧ y < 16 * oth + (m + 1) then M y else σ 16 y := by
  rw [up_i, h3 y]
  by_cases q : y = 16 * oth + m
  · rw [if_pos q, if_pos (by omega), q, hz]
  · rw [if_neg q]
    by_cases q2 : 16 * oth ≤ y ∧ y < 16 * oth + m
    · rw [if_pos q2, if_pos (by omega)]
    · rw [if_neg q2, if_neg (by omega)]

set_option maxHeartbeats 4000000 in
set_option maxRecDepth 100000 in
theorem kX6_driftBy (l : Launch) (D : va_G) (E : Nat → Nat) (q : Nat → Nat) (σ : St) (k ma mb : Int) (hwf : WfM σ) (hk : 0 ≤ k ∧ k < σ 4 0) (hm : (0 ≤ ma ∧ ma ≤ 400) ∧ (0 ≤ mb ∧ mb ≤ 400)) : CtI l D E yX6_driftBy wsX6_driftBy ({ frames := 1, cells := 0, slots := 0, locals := 21 } : Room) [.ref (q 0), .int (jI k), .int (jI ma), .int (jI mb)] (MW E q σ) (MW E q) (fun (rv : Int) (uu : St) => σ = uu ∧ rv = drF (mV σ) (mW σ) k ma mb) := by
  refine mk_I (cc := cX6_driftBy) (maxL := 5) (ret := some .int) (by decide) rfl (Nat.le_of_ble_eq_true rfl) ?_
  intro p e s m args below meth c A X hret
  have hin6 : ∀ x ∈ u_ws RX6 TX6 19, x ∈ wsX6_driftBy := fun _ h => List.mem_cons_of_mem _ (List.mem_append_right _ h)
  refine z_lv (lv' := [(0, .ref (q 0)), (1, .int (jI k)), (2, .int (jI ma)), (3, .int (jI mb))]) [0, 1, 2, 3] rfl ?_
  obtain ⟨n0, n3, n4, n13⟩ := hwf.n
  have ht := hwf.tie (k := k) hk.1 hk.2
  have ta := tk_rng ht.2.1
  have tb := tk_rng ht.2.2.2.1
  have p1 := mul_bd (a := mb) (b := tk (σ 5 (5 * k + 1))) (A := 400) (B := 144) (by omega) (by omega)
  have p2 := mul_bd (a := ma) (b := tk (σ 5 (5 * k + 3))) (A := 400) (B := 144) (by omega) (by omega)
  refine z_iload_n (pc' := 1) X dX6_driftBy_0 rfl 3 rfl rfl ?_
  refine z_aload_n (pc' := 2) X dX6_driftBy_1 rfl 0 rfl rfl ?_
  refine z_get (pc' := 5) (C := RX6) (ref := "PivotBeatsModel") (T := TX6) (N := 19) (v := .ref (q 5)) X dX6_driftBy_2 rfl hin6 0 rfl rfl 5 (by decide) (by decide +kernel) rfl rfl ?_
  refine z_iconst (pc' := 6) X dX6_driftBy_5 rfl ?_
  refine z_iload_n (pc' := 7) X dX6_driftBy_6 rfl 1 rfl rfl ?_
  refine z_imul (pc' := 8) X dX6_driftBy_7 rfl ?_
  refine z_iconst (pc' := 9) X dX6_driftBy_8 rfl ?_
  refine z_iadd (pc' := 10) X dX6_driftBy_9 rfl ?_
  refine z_iald (pc' := 11) (f := σ 5) (n := 60) X dX6_driftBy_10 rfl 3 rfl (by decide) (by omega) ?_
  refine z_callPI (pc' := 14) (S := Unit) (As := [.int (jI (σ 5 ((5 * k) + 1)))]) (rest := [.int (jI mb)]) X dX6_driftBy_11 rfl (kX6_ticksOf l D E (σ 5 ((5 * k) + 1))  (by omega)) (va_cwS 1 X.1.2.2.2.2 gX6_driftBy_X6_ticksOf rfl rfl rfl (by decide +kernel) ⟨Nat.le_of_ble_eq_true rfl, Nat.le_of_ble_eq_true rfl⟩) rfl rfl (Nat.le_of_ble_eq_true rfl) (fun r11 u11 hp11 => ?_)
  replace hp11 := hp11.symm; subst hp11
  refine z_imul (pc' := 15) X dX6_driftBy_14 rfl ?_
  refine z_iload_n (pc' := 16) X dX6_driftBy_15 rfl 2 rfl rfl ?_
  refine z_aload_n (pc' := 17) X dX6_driftBy_16 rfl 0 rfl rfl ?_
  refine z_get (pc' := 20) (C := RX6) (ref := "PivotBeatsModel") (T := TX6) (N := 19) (v := .ref (q 5)) X dX6_driftBy_17 rfl hin6 0 rfl rfl 5 (by decide) (by decide +kernel) rfl rfl ?_
  refine z_iconst (pc' := 21) X dX6_driftBy_20 rfl ?_
  refine z_iload_n (pc' := 22) X dX6_driftBy_21 rfl 1 rfl rfl ?_
  refine z_imul (pc' := 23) X dX6_driftBy_22 rfl ?_
  refine z_iconst (pc' := 24) X dX6_driftBy_23 rfl ?_
  refine z_iadd (pc' := 25) X dX6_driftBy_24 rfl ?_
  refine z_iald (pc' := 26) (f := σ 5) (n := 60) X dX6_driftBy_25 rfl 3 rfl (by decide) (by omega) ?_
  refine z_callPI (pc' := 29) (S := Unit) (As := [.int (jI (σ 5 ((5 * k) + 3)))]) (rest := [.int (jI ma), .int (jI (mb * (tk (σ 5 ((5 * k) + 1)))))]) X dX6_driftBy_26 rfl (kX6_ticksOf l D E (σ 5 ((5 * k) + 3))  (by omega)) (va_cwS 1 X.1.2.2.2.2 gX6_driftBy_X6_ticksOf rfl rfl rfl (by decide +kernel) ⟨Nat.le_of_ble_eq_true rfl, Nat.le_of_ble_eq_true rfl⟩) rfl rfl (Nat.le_of_ble_eq_true rfl) (fun r26 u26 hp26 => ?_)
  replace hp26 := hp26.symm; subst hp26
  refine z_imul (pc' := 30) X dX6_driftBy_29 rfl ?_
  refine z_isub (pc' := 31) X dX6_driftBy_30 rfl ?_
  refine z_istore (pc' := 33) (lv' := [(4, .int (jI ((mb * (tk (σ 5 ((5 * k) + 1)))) - (ma * (tk (σ 5 ((5 * k) + 3))))))), (0, .ref (q 0)), (1, .int (jI k)), (2, .int (jI ma)), (3, .int (jI mb))]) X dX6_driftBy_31 rfl (by decide) rfl ?_
  refine z_iload (pc' := 35) X dX6_driftBy_33 rfl 0 rfl ?_
  refine z_if_ge (tgt := 44) (pc' := 38) X dX6_driftBy_35 (by decide) rfl (by omega) (fun h35 => ?_) (fun h35 => ?_)
  · refine z_iload (pc' := 46) X dX6_driftBy_44 rfl 0 rfl ?_
    exact z_iret (post := (fun (rv : Int) (uu : St) => σ = uu ∧ rv = drF (mV σ) (mW σ) k ma mb)) X dX6_driftBy_46 hret σ (⟨rfl, by unfold drF mV mW; omega⟩)
  · refine z_iload (pc' := 40) X dX6_driftBy_38 rfl 0 rfl ?_
    refine z_ineg (pc' := 41) X dX6_driftBy_40 rfl ?_
    refine z_goto (tgt := 46) X dX6_driftBy_41 (by decide) ?_
    exact z_iret (post := (fun (rv : Int) (uu : St) => σ = uu ∧ rv = drF (mV σ) (mW σ) k ma mb)) X dX6_driftBy_46 hret σ (⟨rfl, by unfold drF mV mW; omega⟩)
set_option maxHeartbeats 4000000 in
set_option maxRecDepth 100000 in
theorem kX6_hangs (l : Launch) (D : va_G) (E : Nat → Nat) (q : Nat → Nat) (σ : St) (s_ k : Int) (hwf : WfM σ) (hk : 0 ≤ k ∧ k < σ 4 0) (hs : s_ = mA σ k ∨ s_ = mB σ k) (hc : ∀ s m, 0 ≤ s → s < σ 0 0 → 0 ≤ m → m < σ 13 0 → 0 ≤ tbl σ s m ∧ tbl σ s m ≤ 1000000000) : CtV l D E yX6_hangs wsX6_hangs ({ frames := 2, cells := 0, slots := 0, locals := 45 } : Room) [.ref (q 0), .int (jI s_), .int (jI k)] (MW E q σ) (MW E q) (fun (uu : St) => (∀ F, F ≠ 16 → uu F = σ F) ∧ ∀ y, uu 16 y = if 16 * (if mB σ k = s_ then mA σ k else mB σ k) ≤ y ∧ y < 16 * (if mB σ k = s_ then mA σ k else mB σ k) + σ 13 0 then min (σ 16 y + mnF (fun x => σ 16 (16 * s_ + x) + (if mB σ k = s_ then hmF (mV σ) (mW σ) (mE σ) (σ 14) k (y - 16 * (if mB σ k = s_ then mA σ k else mB σ k)) x else hmF (mV σ) (mW σ) (mE σ) (σ 14) k x (y - 16 * (if mB σ k = s_ then mA σ k else mB σ k)))) 1000000000 (σ 13 0).toNat) 1000000000 else σ 16 y) := by
  refine mk_V (cc := cX6_hangs) (maxL := 10) (ret := none) (by decide) rfl (Nat.le_of_ble_eq_true rfl) ?_
  intro p e s m args below meth c A X hret
  have hin6 : ∀ x ∈ u_ws RX6 TX6 19, x ∈ wsX6_hangs := fun _ h => List.mem_cons_of_mem _ (List.mem_append_right _ h)
  refine z_lv (lv' := [(0, .ref (q 0)), (1, .int (jI s_)), (2, .int (jI k))]) [0, 1, 2] rfl ?_
  obtain ⟨n0, n3, n4, n13⟩ := hwf.n
  have ht := hwf.tie (k := k) hk.1 hk.2
  have hmk := hwf.2.2.2.2.2.2.2.1
  have eA : mA σ k = σ 5 (5 * k) := rfl
  have eB : mB σ k = σ 5 (5 * k + 2) := rfl
  have hs7 : 0 ≤ s_ ∧ s_ < σ 0 0 := by omega
  refine z_aload_n (pc' := 1) X dX6_hangs_0 rfl 0 rfl rfl ?_
  refine z_get (pc' := 4) (C := RX6) (ref := "PivotBeatsModel") (T := TX6) (N := 19) (v := .ref (q 5)) X dX6_hangs_1 rfl hin6 0 rfl rfl 5 (by decide) (by decide +kernel) rfl rfl ?_
  refine z_iconst (pc' := 5) X dX6_hangs_4 rfl ?_
  refine z_iload_n (pc' := 6) X dX6_hangs_5 rfl 2 rfl rfl ?_
  refine z_imul (pc' := 7) X dX6_hangs_6 rfl ?_
  refine z_iconst (pc' := 8) X dX6_hangs_7 rfl ?_
  refine z_iadd (pc' := 9) X dX6_hangs_8 rfl ?_
  refine z_iald (pc' := 10) (f := σ 5) (n := 60) X dX6_hangs_9 rfl 3 rfl (by decide) (by omega) ?_
  refine z_iload_n (pc' := 11) X dX6_hangs_10 rfl 1 rfl rfl ?_
  have jn19 : ∀ (isb : Int), ((isb = 1 ∧ mB σ k = s_) ∨ (isb = 0 ∧ ¬ mB σ k = s_)) → J p l e (headSpec wsX6_hangs ({ frames := 2, cells := 0, slots := 0, locals := 45 } : Room)).room s m args below meth c D A 10 (MQ below (va_Qv (fun (uu : St) => (∀ F, F ≠ 16 → uu F = σ F) ∧ ∀ y, uu 16 y = if 16 * (if mB σ k = s_ then mA σ k else mB σ k) ≤ y ∧ y < 16 * (if mB σ k = s_ then mA σ k else mB σ k) + σ 13 0 then min (σ 16 y + mnF (fun x => σ 16 (16 * s_ + x) + (if mB σ k = s_ then hmF (mV σ) (mW σ) (mE σ) (σ 14) k (y - 16 * (if mB σ k = s_ then mA σ k else mB σ k)) x else hmF (mV σ) (mW σ) (mE σ) (σ 14) k x (y - 16 * (if mB σ k = s_ then mA σ k else mB σ k)))) 1000000000 (σ 13 0).toNat) 1000000000 else σ 16 y) (Bw D (MW E q) A) A) args s 0 0 A) 19 [(0, .ref (q 0)), (1, .int (jI s_)), (2, .int (jI k))] [.int (jI isb)] (MW E q σ) := by
    intro isb hj19
    refine z_istore_n (pc' := 20) (lv' := [(3, .int (jI isb)), (0, .ref (q 0)), (1, .int (jI s_)), (2, .int (jI k))]) X dX6_hangs_19 rfl rfl (by decide) rfl ?_
    refine z_iload_n (pc' := 21) X dX6_hangs_20 rfl 0 rfl rfl ?_
    have jn45 : ∀ (oth : Int), (oth = (if mB σ k = s_ then mA σ k else mB σ k)) → J p l e (headSpec wsX6_hangs ({ frames := 2, cells := 0, slots := 0, locals := 45 } : Room)).room s m args below meth c D A 10 (MQ below (va_Qv (fun (uu : St) => (∀ F, F ≠ 16 → uu F = σ F) ∧ ∀ y, uu 16 y = if 16 * (if mB σ k = s_ then mA σ k else mB σ k) ≤ y ∧ y < 16 * (if mB σ k = s_ then mA σ k else mB σ k) + σ 13 0 then min (σ 16 y + mnF (fun x => σ 16 (16 * s_ + x) + (if mB σ k = s_ then hmF (mV σ) (mW σ) (mE σ) (σ 14) k (y - 16 * (if mB σ k = s_ then mA σ k else mB σ k)) x else hmF (mV σ) (mW σ) (mE σ) (σ 14) k x (y - 16 * (if mB σ k = s_ then mA σ k else mB σ k)))) 1000000000 (σ 13 0).toNat) 1000000000 else σ 16 y) (Bw D (MW E q) A) A) args s 0 0 A) 45 [(3, .int (jI isb)), (0, .ref (q 0)), (1, .int (jI s_)), (2, .int (jI k))] [.int (jI oth)] (MW E q σ) := by
      intro oth hj45
      have ho : (0 ≤ oth ∧ oth < σ 0 0) ∧ oth ≠ s_ := ho_rng hj45 hs ht
      refine z_istore (pc' := 47) (lv' := [(4, .int (jI oth)), (3, .int (jI isb)), (0, .ref (q 0)), (1, .int (jI s_)), (2, .int (jI k))]) X dX6_hangs_45 rfl (by decide) rfl ?_
      refine z_iconst (pc' := 48) X dX6_hangs_47 rfl ?_
      refine z_istore (pc' := 50) (lv' := [(5, .int (jI 0)), (4, .int (jI oth)), (3, .int (jI isb)), (0, .ref (q 0)), (1, .int (jI s_)), (2, .int (jI k))]) X dX6_hangs_48 rfl (by decide) rfl ?_
      have lp50 : ∀ (nF : Nat) (m_ : Int) (u1 : St) , ((0 ≤ m_ ∧ m_ ≤ σ 13 0) ∧ (∀ F, F ≠ 16 → u1 F = σ F) ∧ ∀ y, u1 16 y = if 16 * oth ≤ y ∧ y < 16 * oth + m_ then min (σ 16 y + mnF (fun x => σ 16 (16 * s_ + x) + (if mB σ k = s_ then hmF (mV σ) (mW σ) (mE σ) (σ 14) k (y - 16 * oth) x else hmF (mV σ) (mW σ) (mE σ) (σ 14) k x (y - 16 * oth))) 1000000000 (σ 13 0).toNat) 1000000000 else σ 16 y) → ((16 - m_).toNat : Nat) < nF → J p l e (headSpec wsX6_hangs ({ frames := 2, cells := 0, slots := 0, locals := 45 } : Room)).room s m args below meth c D A 10 (MQ below (va_Qv (fun (uu : St) => (∀ F, F ≠ 16 → uu F = σ F) ∧ ∀ y, uu 16 y = if 16 * (if mB σ k = s_ then mA σ k else mB σ k) ≤ y ∧ y < 16 * (if mB σ k = s_ then mA σ k else mB σ k) + σ 13 0 then min (σ 16 y + mnF (fun x => σ 16 (16 * s_ + x) + (if mB σ k = s_ then hmF (mV σ) (mW σ) (mE σ) (σ 14) k (y - 16 * (if mB σ k = s_ then mA σ k else mB σ k)) x else hmF (mV σ) (mW σ) (mE σ) (σ 14) k x (y - 16 * (if mB σ k = s_ then mA σ k else mB σ k)))) 1000000000 (σ 13 0).toNat) 1000000000 else σ 16 y) (Bw D (MW E q) A) A) args s 0 0 A) 50 [(5, .int (jI m_)), (4, .int (jI oth)), (3, .int (jI isb)), (0, .ref (q 0)), (1, .int (jI s_)), (2, .int (jI k))] [] (MW E q u1) := by
        intro nF
        induction nF with
        | zero => intro m_ u1  hI hn; exact absurd hn (Nat.not_lt_zero _)
        | succ nF ih50 =>
          intro m_ u1  hI hn
          obtain ⟨h1, h2, h3⟩ := hI
          have e13 : u1 13 0 = σ 13 0 := by rw [h2 13 (by decide)]
          have e14 : u1 14 = σ 14 := h2 14 (by decide)
          have e5 : u1 5 = σ 5 := h2 5 (by decide)
          have w1 := ne16 h2 hwf
          have ev : mV u1 = mV σ ∧ mW u1 = mW σ := by unfold mV mW; rw [e5]; exact ⟨rfl, rfl⟩
          have e16s : ∀ x, (0 ≤ x ∧ x < 16) → u1 16 (16 * s_ + x) = σ 16 (16 * s_ + x) := fun x hx => by rw [h3, if_neg (by omega)]
          have cm : u1 16 (16 * oth + m_) = σ 16 (16 * oth + m_) := by rw [h3, if_neg (by omega)]
          refine z_iload (pc' := 52) X dX6_hangs_50 rfl 0 rfl ?_
          refine z_aload_n (pc' := 53) X dX6_hangs_52 rfl 3 rfl rfl ?_
          refine z_get (pc' := 56) (C := RX6) (ref := "PivotBeatsModel") (T := TX6) (N := 19) (v := .int (jI (u1 13 0))) X dX6_hangs_53 rfl hin6 0 rfl rfl 13 (by decide) (by decide +kernel) rfl rfl ?_
          refine z_icmp_ge (tgt := 223) (pc' := 59) X dX6_hangs_56 (by decide) rfl (by omega) (fun h56 => ?_) (fun h56 => ?_)
          · exact z_vret (post := (fun (uu : St) => (∀ F, F ≠ 16 → uu F = σ F) ∧ ∀ y, uu 16 y = if 16 * (if mB σ k = s_ then mA σ k else mB σ k) ≤ y ∧ y < 16 * (if mB σ k = s_ then mA σ k else mB σ k) + σ 13 0 then min (σ 16 y + mnF (fun x => σ 16 (16 * s_ + x) + (if mB σ k = s_ then hmF (mV σ) (mW σ) (mE σ) (σ 14) k (y - 16 * (if mB σ k = s_ then mA σ k else mB σ k)) x else hmF (mV σ) (mW σ) (mE σ) (σ 14) k x (y - 16 * (if mB σ k = s_ then mA σ k else mB σ k)))) 1000000000 (σ 13 0).toNat) 1000000000 else σ 16 y)) X dX6_hangs_223 hret u1 (⟨h2, by rw [← hj45]; intro y; rw [h3 y, show m_ = σ 13 0 by omega]⟩)
          · refine z_ldc (pc' := 61) (x := 1000000000) X dX6_hangs_59 rfl (by decide +kernel) rfl ?_
            refine z_istore (pc' := 63) (lv' := [(6, .int (jI 1000000000)), (5, .int (jI m_)), (4, .int (jI oth)), (3, .int (jI isb)), (0, .ref (q 0)), (1, .int (jI s_)), (2, .int (jI k))]) X dX6_hangs_61 rfl (by decide) rfl ?_
            refine z_iconst (pc' := 64) X dX6_hangs_63 rfl ?_
            refine z_istore (pc' := 66) (lv' := [(7, .int (jI 0)), (6, .int (jI 1000000000)), (5, .int (jI m_)), (4, .int (jI oth)), (3, .int (jI isb)), (0, .ref (q 0)), (1, .int (jI s_)), (2, .int (jI k))]) X dX6_hangs_64 rfl (by decide) rfl ?_
            have lp66 : ∀ (nF : Nat) (x : Int) (least : Int) , ((0 ≤ x ∧ x ≤ σ 13 0) ∧ least = mnF (fun x => σ 16 (16 * s_ + x) + (if mB σ k = s_ then hmF (mV σ) (mW σ) (mE σ) (σ 14) k m_ x else hmF (mV σ) (mW σ) (mE σ) (σ 14) k x m_)) 1000000000 x.toNat ∧ (0 ≤ least ∧ least ≤ 1000000000)) → ((16 - x).toNat : Nat) < nF → J p l e (headSpec wsX6_hangs ({ frames := 2, cells := 0, slots := 0, locals := 45 } : Room)).room s m args below meth c D A 10 (MQ below (va_Qv (fun (uu : St) => (∀ F, F ≠ 16 → uu F = σ F) ∧ ∀ y, uu 16 y = if 16 * (if mB σ k = s_ then mA σ k else mB σ k) ≤ y ∧ y < 16 * (if mB σ k = s_ then mA σ k else mB σ k) + σ 13 0 then min (σ 16 y + mnF (fun x => σ 16 (16 * s_ + x) + (if mB σ k = s_ then hmF (mV σ) (mW σ) (mE σ) (σ 14) k (y - 16 * (if mB σ k = s_ then mA σ k else mB σ k)) x else hmF (mV σ) (mW σ) (mE σ) (σ 14) k x (y - 16 * (if mB σ k = s_ then mA σ k else mB σ k)))) 1000000000 (σ 13 0).toNat) 1000000000 else σ 16 y) (Bw D (MW E q) A) A) args s 0 0 A) 66 [(7, .int (jI x)), (6, .int (jI least)), (5, .int (jI m_)), (4, .int (jI oth)), (3, .int (jI isb)), (0, .ref (q 0)), (1, .int (jI s_)), (2, .int (jI k))] [] (MW E q u1) := by
              intro nF
              induction nF with
              | zero => intro x least  hI hn; exact absurd hn (Nat.not_lt_zero _)
              | succ nF ih66 =>
                intro x least  hI hn
                obtain ⟨g1, g2, g3⟩ := hI
                refine z_iload (pc' := 68) X dX6_hangs_66 rfl 0 rfl ?_
                refine z_aload_n (pc' := 69) X dX6_hangs_68 rfl 5 rfl rfl ?_
                refine z_get (pc' := 72) (C := RX6) (ref := "PivotBeatsModel") (T := TX6) (N := 19) (v := .int (jI (u1 13 0))) X dX6_hangs_69 rfl hin6 0 rfl rfl 13 (by decide) (by decide +kernel) rfl rfl ?_
                refine z_icmp_ge (tgt := 172) (pc' := 75) X dX6_hangs_72 (by decide) rfl (by omega) (fun h72 => ?_) (fun h72 => ?_)
                · have c8 := hc oth m_ ho.1.1 ho.1.2 (by omega) (by omega)
                  unfold tbl at c8
                  refine z_aload_n (pc' := 173) X dX6_hangs_172 rfl 5 rfl rfl ?_
                  refine z_get (pc' := 176) (C := RX6) (ref := "PivotBeatsModel") (T := TX6) (N := 19) (v := .ref (q 16)) X dX6_hangs_173 rfl hin6 0 rfl rfl 16 (by decide) (by decide +kernel) rfl rfl ?_
                  refine z_bipush (pc' := 178) X dX6_hangs_176 rfl rfl ?_
                  refine z_iload (pc' := 180) X dX6_hangs_178 rfl 3 rfl ?_
                  refine z_imul (pc' := 181) X dX6_hangs_180 rfl ?_
                  refine z_iload (pc' := 183) X dX6_hangs_181 rfl 2 rfl ?_
                  refine z_iadd (pc' := 184) X dX6_hangs_183 rfl ?_
                  refine z_iald (pc' := 185) (f := u1 16) (n := 112) X dX6_hangs_184 rfl 12 rfl (by decide) (by omega) ?_
                  refine z_iload (pc' := 187) X dX6_hangs_185 rfl 1 rfl ?_
                  refine z_iadd (pc' := 188) X dX6_hangs_187 rfl ?_
                  refine z_istore (pc' := 190) (lv' := [(7, .int (jI ((u1 16 ((16 * oth) + m_)) + least))), (6, .int (jI least)), (5, .int (jI m_)), (4, .int (jI oth)), (3, .int (jI isb)), (0, .ref (q 0)), (1, .int (jI s_)), (2, .int (jI k))]) X dX6_hangs_188 rfl (by decide) rfl ?_
                  refine z_aload_n (pc' := 191) X dX6_hangs_190 rfl 5 rfl rfl ?_
                  refine z_get (pc' := 194) (C := RX6) (ref := "PivotBeatsModel") (T := TX6) (N := 19) (v := .ref (q 16)) X dX6_hangs_191 rfl hin6 0 rfl rfl 16 (by decide) (by decide +kernel) rfl rfl ?_
                  refine z_bipush (pc' := 196) X dX6_hangs_194 rfl rfl ?_
                  refine z_iload (pc' := 198) X dX6_hangs_196 rfl 3 rfl ?_
                  refine z_imul (pc' := 199) X dX6_hangs_198 rfl ?_
                  refine z_iload (pc' := 201) X dX6_hangs_199 rfl 2 rfl ?_
                  refine z_iadd (pc' := 202) X dX6_hangs_201 rfl ?_
                  refine z_iload (pc' := 204) X dX6_hangs_202 rfl 0 rfl ?_
                  refine z_ldc (pc' := 206) (x := 1000000000) X dX6_hangs_204 rfl (by decide +kernel) rfl ?_
                  have hv206 : ∀ {z : Int}, ((σ 16 (16 * oth + m_) + least < 1000000000 ∧ z = σ 16 (16 * oth + m_) + least) ∨ (1000000000 ≤ σ 16 (16 * oth + m_) + least ∧ z = 1000000000)) → z = min (σ 16 (16 * oth + m_) + mnF (fun x => σ 16 (16 * s_ + x) + (if mB σ k = s_ then hmF (mV σ) (mW σ) (mE σ) (σ 14) k (16 * oth + m_ - 16 * oth) x else hmF (mV σ) (mW σ) (mE σ) (σ 14) k x (16 * oth + m_ - 16 * oth))) 1000000000 (σ 13 0).toNat) 1000000000 := by intro z hz; rw [show 16 * oth + m_ - 16 * oth = m_ by omega, show σ 13 0 = x by omega, ← g2]; omega
                  refine z_icmp_ge (tgt := 214) (pc' := 209) X dX6_hangs_206 (by decide) rfl (by (have c9 := hc oth m_ ho.1.1 ho.1.2 (by omega) (by omega); unfold tbl at c9; omega)) (fun h206 => ?_) (fun h206 => ?_)
                  · refine z_ldc (pc' := 216) (x := 1000000000) X dX6_hangs_214 rfl (by decide +kernel) rfl ?_
                    refine z_iast (pc' := 217) (f := u1 16) (n := 112) (w' := MW E q (up u1 16 ((16 * oth) + m_) 1000000000)) X dX6_hangs_216 rfl 12 rfl (by decide) (by omega) rfl ?_
                    refine z_iinc (pc' := 220) (lv' := [(5, .int (jI (m_ + 1))), (7, .int (jI ((u1 16 ((16 * oth) + m_)) + least))), (6, .int (jI least)), (4, .int (jI oth)), (3, .int (jI isb)), (0, .ref (q 0)), (1, .int (jI s_)), (2, .int (jI k))]) X dX6_hangs_217 rfl 2 rfl (by decide) rfl ?_
                    refine z_goto (tgt := 50) X dX6_hangs_220 (by decide) ?_
                    refine z_lv (lv' := [(5, .int (jI (m_ + 1))), (4, .int (jI oth)), (3, .int (jI isb)), (0, .ref (q 0)), (1, .int (jI s_)), (2, .int (jI k))]) [0, 3, 4, 5, 6, 7] rfl ?_
                    exact ih50 (m_ + 1) (up u1 16 ((16 * oth) + m_) 1000000000)  (⟨by omega, fun F hF => by rw [← h2 F hF]; funext i; exact up_f _ _ _ _ hF, hg_step h1.1 h3 (by first | exact hv206 (Or.inl ⟨by omega, by rw [cm]⟩) | exact hv206 (Or.inr ⟨by omega, rfl⟩))⟩) (by omega)
                  · refine z_iload (pc' := 211) X dX6_hangs_209 rfl 0 rfl ?_
                    refine z_goto (tgt := 216) X dX6_hangs_211 (by decide) ?_
                    refine z_iast (pc' := 217) (f := u1 16) (n := 112) (w' := MW E q (up u1 16 ((16 * oth) + m_) ((u1 16 ((16 * oth) + m_)) + least))) X dX6_hangs_216 rfl 12 rfl (by decide) (by omega) rfl ?_
                    refine z_iinc (pc' := 220) (lv' := [(5, .int (jI (m_ + 1))), (7, .int (jI ((u1 16 ((16 * oth) + m_)) + least))), (6, .int (jI least)), (4, .int (jI oth)), (3, .int (jI isb)), (0, .ref (q 0)), (1, .int (jI s_)), (2, .int (jI k))]) X dX6_hangs_217 rfl 2 rfl (by decide) rfl ?_
                    refine z_goto (tgt := 50) X dX6_hangs_220 (by decide) ?_
                    refine z_lv (lv' := [(5, .int (jI (m_ + 1))), (4, .int (jI oth)), (3, .int (jI isb)), (0, .ref (q 0)), (1, .int (jI s_)), (2, .int (jI k))]) [0, 3, 4, 5, 6, 7] rfl ?_
                    exact ih50 (m_ + 1) (up u1 16 ((16 * oth) + m_) ((u1 16 ((16 * oth) + m_)) + least))  (⟨by omega, fun F hF => by rw [← h2 F hF]; funext i; exact up_f _ _ _ _ hF, hg_step h1.1 h3 (by first | exact hv206 (Or.inl ⟨by omega, by rw [cm]⟩) | exact hv206 (Or.inr ⟨by omega, rfl⟩))⟩) (by omega)
                · refine z_iload_n (pc' := 76) X dX6_hangs_75 rfl 4 rfl rfl ?_
                  have hkm := hmk m_ (by omega) (by omega)
                  have hkx := hmk x (by omega) (by omega)
                  have hr1 := hmF_rng (v := mV σ) (w := mW σ) (er := mE σ) (mk := σ 14) (k := k) (i := m_) (j := x) ht.2.1 ht.2.2.2.1 ht.2.2.2.2.1 hkm hkx
                  have hr2 := hmF_rng (v := mV σ) (w := mW σ) (er := mE σ) (mk := σ 14) (k := k) (i := x) (j := m_) ht.2.1 ht.2.2.2.1 ht.2.2.2.2.1 hkx hkm
                  have ex := e16s x (by omega)
                  have cx := hc s_ x hs7.1 hs7.2 (by omega) (by omega)
                  have jn120 : ∀ (dri : Int), (σ 5 (5 * k + 4) * dri = (if mB σ k = s_ then hmF (mV σ) (mW σ) (mE σ) (σ 14) k m_ x else hmF (mV σ) (mW σ) (mE σ) (σ 14) k x m_) ∧ (0 ≤ dri ∧ dri ≤ 57600) ∧ 0 ≤ σ 5 (5 * k + 4) * dri ∧ σ 5 (5 * k + 4) * dri ≤ 518400) → J p l e (headSpec wsX6_hangs ({ frames := 2, cells := 0, slots := 0, locals := 45 } : Room)).room s m args below meth c D A 10 (MQ below (va_Qv (fun (uu : St) => (∀ F, F ≠ 16 → uu F = σ F) ∧ ∀ y, uu 16 y = if 16 * (if mB σ k = s_ then mA σ k else mB σ k) ≤ y ∧ y < 16 * (if mB σ k = s_ then mA σ k else mB σ k) + σ 13 0 then min (σ 16 y + mnF (fun x => σ 16 (16 * s_ + x) + (if mB σ k = s_ then hmF (mV σ) (mW σ) (mE σ) (σ 14) k (y - 16 * (if mB σ k = s_ then mA σ k else mB σ k)) x else hmF (mV σ) (mW σ) (mE σ) (σ 14) k x (y - 16 * (if mB σ k = s_ then mA σ k else mB σ k)))) 1000000000 (σ 13 0).toNat) 1000000000 else σ 16 y) (Bw D (MW E q) A) A) args s 0 0 A) 120 [(7, .int (jI x)), (6, .int (jI least)), (5, .int (jI m_)), (4, .int (jI oth)), (3, .int (jI isb)), (0, .ref (q 0)), (1, .int (jI s_)), (2, .int (jI k))] [.int (jI dri)] (MW E q u1) := by
                    intro dri hj120
                    refine z_istore (pc' := 122) (lv' := [(8, .int (jI dri)), (7, .int (jI x)), (6, .int (jI least)), (5, .int (jI m_)), (4, .int (jI oth)), (3, .int (jI isb)), (0, .ref (q 0)), (1, .int (jI s_)), (2, .int (jI k))]) X dX6_hangs_120 rfl (by decide) rfl ?_
                    unfold tbl at cx
                    have ep : u1 5 (5 * k + 4) * dri = σ 5 (5 * k + 4) * dri := by rw [e5]
                    refine z_aload_n (pc' := 123) X dX6_hangs_122 rfl 6 rfl rfl ?_
                    refine z_get (pc' := 126) (C := RX6) (ref := "PivotBeatsModel") (T := TX6) (N := 19) (v := .ref (q 16)) X dX6_hangs_123 rfl hin6 0 rfl rfl 16 (by decide) (by decide +kernel) rfl rfl ?_
                    refine z_bipush (pc' := 128) X dX6_hangs_126 rfl rfl ?_
                    refine z_iload_n (pc' := 129) X dX6_hangs_128 rfl 7 rfl rfl ?_
                    refine z_imul (pc' := 130) X dX6_hangs_129 rfl ?_
                    refine z_iload (pc' := 132) X dX6_hangs_130 rfl 1 rfl ?_
                    refine z_iadd (pc' := 133) X dX6_hangs_132 rfl ?_
                    refine z_iald (pc' := 134) (f := u1 16) (n := 112) X dX6_hangs_133 rfl 12 rfl (by decide) (by omega) ?_
                    refine z_aload_n (pc' := 135) X dX6_hangs_134 rfl 6 rfl rfl ?_
                    refine z_get (pc' := 138) (C := RX6) (ref := "PivotBeatsModel") (T := TX6) (N := 19) (v := .ref (q 5)) X dX6_hangs_135 rfl hin6 0 rfl rfl 5 (by decide) (by decide +kernel) rfl rfl ?_
                    refine z_iconst (pc' := 139) X dX6_hangs_138 rfl ?_
                    refine z_iload_n (pc' := 140) X dX6_hangs_139 rfl 8 rfl rfl ?_
                    refine z_imul (pc' := 141) X dX6_hangs_140 rfl ?_
                    refine z_iconst (pc' := 142) X dX6_hangs_141 rfl ?_
                    refine z_iadd (pc' := 143) X dX6_hangs_142 rfl ?_
                    refine z_iald (pc' := 144) (f := u1 5) (n := 60) X dX6_hangs_143 rfl 3 rfl (by decide) (by omega) ?_
                    refine z_iload (pc' := 146) X dX6_hangs_144 rfl 0 rfl ?_
                    refine z_imul (pc' := 147) X dX6_hangs_146 rfl ?_
                    refine z_iadd (pc' := 148) X dX6_hangs_147 rfl ?_
                    refine z_istore (pc' := 150) (lv' := [(9, .int (jI ((u1 16 ((16 * s_) + x)) + ((u1 5 ((5 * k) + 4)) * dri)))), (8, .int (jI dri)), (7, .int (jI x)), (6, .int (jI least)), (5, .int (jI m_)), (4, .int (jI oth)), (3, .int (jI isb)), (0, .ref (q 0)), (1, .int (jI s_)), (2, .int (jI k))]) X dX6_hangs_148 rfl (by decide) rfl ?_
                    refine z_iload (pc' := 152) X dX6_hangs_150 rfl 0 rfl ?_
                    refine z_iload (pc' := 154) X dX6_hangs_152 rfl 3 rfl ?_
                    refine z_icmp_ge (tgt := 162) (pc' := 157) X dX6_hangs_154 (by decide) rfl (by omega) (fun h154 => ?_) (fun h154 => ?_)
                    · refine z_iload (pc' := 164) X dX6_hangs_162 rfl 3 rfl ?_
                      refine z_istore (pc' := 166) (lv' := [(6, .int (jI least)), (9, .int (jI ((u1 16 ((16 * s_) + x)) + ((u1 5 ((5 * k) + 4)) * dri)))), (8, .int (jI dri)), (7, .int (jI x)), (5, .int (jI m_)), (4, .int (jI oth)), (3, .int (jI isb)), (0, .ref (q 0)), (1, .int (jI s_)), (2, .int (jI k))]) X dX6_hangs_164 rfl (by decide) rfl ?_
                      refine z_iinc (pc' := 169) (lv' := [(7, .int (jI (x + 1))), (6, .int (jI least)), (9, .int (jI ((u1 16 ((16 * s_) + x)) + ((u1 5 ((5 * k) + 4)) * dri)))), (8, .int (jI dri)), (5, .int (jI m_)), (4, .int (jI oth)), (3, .int (jI isb)), (0, .ref (q 0)), (1, .int (jI s_)), (2, .int (jI k))]) X dX6_hangs_166 rfl 3 rfl (by decide) rfl ?_
                      refine z_goto (tgt := 66) X dX6_hangs_169 (by decide) ?_
                      refine z_lv (lv' := [(7, .int (jI (x + 1))), (6, .int (jI least)), (5, .int (jI m_)), (4, .int (jI oth)), (3, .int (jI isb)), (0, .ref (q 0)), (1, .int (jI s_)), (2, .int (jI k))]) [0, 1, 4, 5, 6, 7, 8, 9] rfl ?_
                      exact ih66 (x + 1) least  (⟨by omega, by rw [mnF_succ _ _ g1.1, ← g2, ← ex, ← hj120.1]; first | omega | (show _ = min least (u1 16 (16 * s_ + x) + σ 5 (5 * k + 4) * dri); omega), by omega⟩) (by omega)
                    · refine z_iload (pc' := 159) X dX6_hangs_157 rfl 0 rfl ?_
                      refine z_goto (tgt := 164) X dX6_hangs_159 (by decide) ?_
                      refine z_istore (pc' := 166) (lv' := [(6, .int (jI ((u1 16 ((16 * s_) + x)) + ((u1 5 ((5 * k) + 4)) * dri)))), (9, .int (jI ((u1 16 ((16 * s_) + x)) + ((u1 5 ((5 * k) + 4)) * dri)))), (8, .int (jI dri)), (7, .int (jI x)), (5, .int (jI m_)), (4, .int (jI oth)), (3, .int (jI isb)), (0, .ref (q 0)), (1, .int (jI s_)), (2, .int (jI k))]) X dX6_hangs_164 rfl (by decide) rfl ?_
                      refine z_iinc (pc' := 169) (lv' := [(7, .int (jI (x + 1))), (6, .int (jI ((u1 16 ((16 * s_) + x)) + ((u1 5 ((5 * k) + 4)) * dri)))), (9, .int (jI ((u1 16 ((16 * s_) + x)) + ((u1 5 ((5 * k) + 4)) * dri)))), (8, .int (jI dri)), (5, .int (jI m_)), (4, .int (jI oth)), (3, .int (jI isb)), (0, .ref (q 0)), (1, .int (jI s_)), (2, .int (jI k))]) X dX6_hangs_166 rfl 3 rfl (by decide) rfl ?_
                      refine z_goto (tgt := 66) X dX6_hangs_169 (by decide) ?_
                      refine z_lv (lv' := [(7, .int (jI (x + 1))), (6, .int (jI ((u1 16 ((16 * s_) + x)) + ((u1 5 ((5 * k) + 4)) * dri)))), (5, .int (jI m_)), (4, .int (jI oth)), (3, .int (jI isb)), (0, .ref (q 0)), (1, .int (jI s_)), (2, .int (jI k))]) [0, 1, 4, 5, 6, 7, 8, 9] rfl ?_
                      exact ih66 (x + 1) ((u1 16 ((16 * s_) + x)) + ((u1 5 ((5 * k) + 4)) * dri))  (⟨by omega, by rw [mnF_succ _ _ g1.1, ← g2, ← ex, ← hj120.1]; first | omega | (show _ = min least (u1 16 (16 * s_ + x) + σ 5 (5 * k + 4) * dri); omega), by omega⟩) (by omega)
                  refine z_if_eq (tgt := 101) (pc' := 79) X dX6_hangs_76 (by decide) rfl (by omega) (fun h76 => ?_) (fun h76 => ?_)
                  · refine z_aload_n (pc' := 102) X dX6_hangs_101 rfl 5 rfl rfl ?_
                    refine z_iload_n (pc' := 103) X dX6_hangs_102 rfl 7 rfl rfl ?_
                    refine z_aload_n (pc' := 104) X dX6_hangs_103 rfl 5 rfl rfl ?_
                    refine z_get (pc' := 107) (C := RX6) (ref := "PivotBeatsModel") (T := TX6) (N := 19) (v := .ref (q 14)) X dX6_hangs_104 rfl hin6 0 rfl rfl 14 (by decide) (by decide +kernel) rfl rfl ?_
                    refine z_iload (pc' := 109) X dX6_hangs_107 rfl 0 rfl ?_
                    refine z_iald (pc' := 110) (f := u1 14) (n := 16) X dX6_hangs_109 rfl 10 rfl (by decide) (by omega) ?_
                    refine z_aload_n (pc' := 111) X dX6_hangs_110 rfl 5 rfl rfl ?_
                    refine z_get (pc' := 114) (C := RX6) (ref := "PivotBeatsModel") (T := TX6) (N := 19) (v := .ref (q 14)) X dX6_hangs_111 rfl hin6 0 rfl rfl 14 (by decide) (by decide +kernel) rfl rfl ?_
                    refine z_iload (pc' := 116) X dX6_hangs_114 rfl 2 rfl ?_
                    refine z_iald (pc' := 117) (f := u1 14) (n := 16) X dX6_hangs_116 rfl 10 rfl (by decide) (by omega) ?_
                    refine z_callVI (pc' := 120) (S := St) (As := [.int (jI k), .int (jI (u1 14 x)), .int (jI (u1 14 m_))]) (rest := []) X dX6_hangs_117 rfl (kX6_driftBy l D E q u1 k (u1 14 x) (u1 14 m_)  (w1) (by rw [h2 4 (by decide)]; exact hk) (by rw [e14]; omega)) (cwV 3 X.1.2.2.2.2 gX6_hangs_X6_driftBy rfl rfl rfl (by decide +kernel) ⟨Nat.le_of_ble_eq_true rfl, Nat.le_of_ble_eq_true rfl⟩) 0 rfl rfl rfl rfl (Nat.le_of_ble_eq_true rfl) (fun r117 u117 hp117 => ?_)
                    obtain ⟨rfl, e117⟩ := hp117
                    exact jn120 r117 (by first | (rw [e117, ev.1, ev.2, e14]; exact ⟨by rw [if_neg (show ¬ mB σ k = s_ by omega)]; rfl, hr2.1, hr2.2⟩) | (rw [e95, ev.1, ev.2, e14]; exact ⟨by rw [if_pos (show mB σ k = s_ by omega)]; rfl, hr1.1, hr1.2⟩))
                  · refine z_aload_n (pc' := 80) X dX6_hangs_79 rfl 5 rfl rfl ?_
                    refine z_iload_n (pc' := 81) X dX6_hangs_80 rfl 7 rfl rfl ?_
                    refine z_aload_n (pc' := 82) X dX6_hangs_81 rfl 5 rfl rfl ?_
                    refine z_get (pc' := 85) (C := RX6) (ref := "PivotBeatsModel") (T := TX6) (N := 19) (v := .ref (q 14)) X dX6_hangs_82 rfl hin6 0 rfl rfl 14 (by decide) (by decide +kernel) rfl rfl ?_
                    refine z_iload (pc' := 87) X dX6_hangs_85 rfl 2 rfl ?_
                    refine z_iald (pc' := 88) (f := u1 14) (n := 16) X dX6_hangs_87 rfl 10 rfl (by decide) (by omega) ?_
                    refine z_aload_n (pc' := 89) X dX6_hangs_88 rfl 5 rfl rfl ?_
                    refine z_get (pc' := 92) (C := RX6) (ref := "PivotBeatsModel") (T := TX6) (N := 19) (v := .ref (q 14)) X dX6_hangs_89 rfl hin6 0 rfl rfl 14 (by decide) (by decide +kernel) rfl rfl ?_
                    refine z_iload (pc' := 94) X dX6_hangs_92 rfl 0 rfl ?_
                    refine z_iald (pc' := 95) (f := u1 14) (n := 16) X dX6_hangs_94 rfl 10 rfl (by decide) (by omega) ?_
                    refine z_callVI (pc' := 98) (S := St) (As := [.int (jI k), .int (jI (u1 14 m_)), .int (jI (u1 14 x))]) (rest := []) X dX6_hangs_95 rfl (kX6_driftBy l D E q u1 k (u1 14 m_) (u1 14 x)  (w1) (by rw [h2 4 (by decide)]; exact hk) (by rw [e14]; omega)) (cwV 3 X.1.2.2.2.2 gX6_hangs_X6_driftBy rfl rfl rfl (by decide +kernel) ⟨Nat.le_of_ble_eq_true rfl, Nat.le_of_ble_eq_true rfl⟩) 0 rfl rfl rfl rfl (Nat.le_of_ble_eq_true rfl) (fun r95 u95 hp95 => ?_)
                    obtain ⟨rfl, e95⟩ := hp95
                    refine z_goto (tgt := 120) X dX6_hangs_98 (by decide) ?_
                    exact jn120 r95 (by first | (rw [e117, ev.1, ev.2, e14]; exact ⟨by rw [if_neg (show ¬ mB σ k = s_ by omega)]; rfl, hr2.1, hr2.2⟩) | (rw [e95, ev.1, ev.2, e14]; exact ⟨by rw [if_pos (show mB σ k = s_ by omega)]; rfl, hr1.1, hr1.2⟩))
            exact lp66 _ 0 1000000000  (⟨by omega, rfl, by omega⟩) (Nat.lt_succ_self _)
      exact lp50 _ 0 σ  (⟨by omega, fun _ _ => rfl, fun y => by rw [if_neg (by omega)]⟩) (Nat.lt_succ_self _)
    refine z_if_eq (tgt := 35) (pc' := 24) X dX6_hangs_21 (by decide) rfl (by omega) (fun h21 => ?_) (fun h21 => ?_)
    · refine z_aload_n (pc' := 36) X dX6_hangs_35 rfl 1 rfl rfl ?_
      refine z_get (pc' := 39) (C := RX6) (ref := "PivotBeatsModel") (T := TX6) (N := 19) (v := .ref (q 5)) X dX6_hangs_36 rfl hin6 0 rfl rfl 5 (by decide) (by decide +kernel) rfl rfl ?_
      refine z_iconst (pc' := 40) X dX6_hangs_39 rfl ?_
      refine z_iload_n (pc' := 41) X dX6_hangs_40 rfl 3 rfl rfl ?_
      refine z_imul (pc' := 42) X dX6_hangs_41 rfl ?_
      refine z_iconst (pc' := 43) X dX6_hangs_42 rfl ?_
      refine z_iadd (pc' := 44) X dX6_hangs_43 rfl ?_
      refine z_iald (pc' := 45) (f := σ 5) (n := 60) X dX6_hangs_44 rfl 3 rfl (by decide) (by omega) ?_
      exact jn45 (σ 5 ((5 * k) + 2)) (by first | exact (if_neg (show ¬ mB σ k = s_ by omega)).symm | exact (if_pos (show mB σ k = s_ by omega)).symm)
    · refine z_aload_n (pc' := 25) X dX6_hangs_24 rfl 1 rfl rfl ?_
      refine z_get (pc' := 28) (C := RX6) (ref := "PivotBeatsModel") (T := TX6) (N := 19) (v := .ref (q 5)) X dX6_hangs_25 rfl hin6 0 rfl rfl 5 (by decide) (by decide +kernel) rfl rfl ?_
      refine z_iconst (pc' := 29) X dX6_hangs_28 rfl ?_
      refine z_iload_n (pc' := 30) X dX6_hangs_29 rfl 3 rfl rfl ?_
      refine z_imul (pc' := 31) X dX6_hangs_30 rfl ?_
      refine z_iald (pc' := 32) (f := σ 5) (n := 60) X dX6_hangs_31 rfl 3 rfl (by decide) (by omega) ?_
      refine z_goto (tgt := 45) X dX6_hangs_32 (by decide) ?_
      exact jn45 (σ 5 (5 * k)) (by first | exact (if_neg (show ¬ mB σ k = s_ by omega)).symm | exact (if_pos (show mB σ k = s_ by omega)).symm)
  refine z_icmp_ne (tgt := 18) (pc' := 14) X dX6_hangs_11 (by decide) rfl (by omega) (fun h11 => ?_) (fun h11 => ?_)
  · refine z_iconst (pc' := 19) X dX6_hangs_18 rfl ?_
    exact jn19 0 (by first | exact Or.inl ⟨rfl, h11⟩ | exact Or.inr ⟨rfl, h11⟩)
  · refine z_iconst (pc' := 15) X dX6_hangs_14 rfl ?_
    refine z_goto (tgt := 19) X dX6_hangs_15 (by decide) ?_
    exact jn19 1 (by first | exact Or.inl ⟨rfl, h11⟩ | exact Or.inr ⟨rfl, h11⟩)
