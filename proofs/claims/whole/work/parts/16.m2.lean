theorem unt_step {σ u1 : St} {k x : Int} (h1 : 5 * k ≤ x) (h3 : ∀ y, u1 5 y = if 5 * k ≤ y ∧ y < x then σ 5 (y + 5) else σ 5 y) (y : Int) : up u1 5 x (u1 5 (x + 5)) 5 y = if 5 * k ≤ y ∧ y < x + 1 then σ 5 (y + 5) else σ 5 y := by
  rw [up_i, h3 y, h3 (x + 5), if_neg (show ¬ (5 * k ≤ x + 5 ∧ x + 5 < x) by omega)]
  by_cases q : y = x
  · rw [if_pos q, if_pos (by omega), q]
  · rw [if_neg q]
    by_cases q2 : 5 * k ≤ y ∧ y < x
    · rw [if_pos q2, if_pos (by omega)]
    · rw [if_neg q2, if_neg (by omega)]
set_option maxHeartbeats 4000000 in
set_option maxRecDepth 100000 in
theorem kX6_isSection (l : Launch) (D : va_G) (E : Nat → Nat) (q : Nat → Nat) (σ : St) (s_ : Int) (hwf : WfM σ) (hr : (-2147483648 ≤ s_ ∧ s_ < 2147483648)) : CtI l D E yX6_isSection wsX6_isSection ({ frames := 1, cells := 0, slots := 0, locals := 22 } : Room) [.ref (q 0), .int (jI s_)] (MW E q σ) (MW E q) (fun (rv : Int) (uu : St) => σ = uu ∧ ((rv = 1 ∧ (0 ≤ s_ ∧ s_ < σ 0 0)) ∨ (rv = 0 ∧ ¬ (0 ≤ s_ ∧ s_ < σ 0 0)))) := by
  refine mk_I (cc := cX6_isSection) (maxL := 2) (ret := some .boolean) (by decide) rfl (Nat.le_of_ble_eq_true rfl) ?_
  intro p e s m args below meth c A X hret
  have hin6 : ∀ x ∈ u_ws RX6 TX6 19, x ∈ wsX6_isSection := fun _ h => List.mem_cons_of_mem _ (List.mem_append_right _ h)
  refine z_lv (lv' := [(0, .ref (q 0)), (1, .int (jI s_))]) [0, 1] rfl ?_
  obtain ⟨n0, n3, n4, n13⟩ := hwf.n
  refine z_iload_n (pc' := 1) X dX6_isSection_0 rfl 1 rfl rfl ?_
  refine z_iconst (pc' := 2) X dX6_isSection_1 rfl ?_
  refine z_aload_n (pc' := 3) X dX6_isSection_2 rfl 0 rfl rfl ?_
  refine z_get (pc' := 6) (C := RX6) (ref := "PivotBeatsModel") (T := TX6) (N := 19) (v := .int (jI (σ 0 0))) X dX6_isSection_3 rfl hin6 0 rfl rfl 0 (by decide) (by decide +kernel) rfl rfl ?_
  refine z_iconst (pc' := 7) X dX6_isSection_6 rfl ?_
  refine z_isub (pc' := 8) X dX6_isSection_7 rfl ?_
  refine z_callPI (pc' := 11) (S := Unit) (As := [.int (jI s_), .int (jI 0), .int (jI ((σ 0 0) - 1))]) (rest := []) X dX6_isSection_8 rfl (kX6_isIn l D E s_ 0 ((σ 0 0) - 1)  (by omega)) (va_cwS 3 X.1.2.2.2.2 gX6_isSection_X6_isIn rfl rfl rfl (by decide +kernel) ⟨Nat.le_of_ble_eq_true rfl, Nat.le_of_ble_eq_true rfl⟩) rfl rfl (Nat.le_of_ble_eq_true rfl) (fun r8 u8 hp8 => ?_)
  skip
  rcases hp8 with ⟨rfl, hp8⟩ | ⟨rfl, hp8⟩
  · exact z_zret (post := (fun (rv : Int) (uu : St) => σ = uu ∧ ((rv = 1 ∧ (0 ≤ s_ ∧ s_ < σ 0 0)) ∨ (rv = 0 ∧ ¬ (0 ≤ s_ ∧ s_ < σ 0 0))))) X dX6_isSection_11 hret σ (by first | decide | omega) (⟨rfl, Or.inl ⟨rfl, by omega⟩⟩)
  · exact z_zret (post := (fun (rv : Int) (uu : St) => σ = uu ∧ ((rv = 1 ∧ (0 ≤ s_ ∧ s_ < σ 0 0)) ∨ (rv = 0 ∧ ¬ (0 ≤ s_ ∧ s_ < σ 0 0))))) X dX6_isSection_11 hret σ (by first | decide | omega) (⟨rfl, Or.inr ⟨rfl, by omega⟩⟩)
set_option maxHeartbeats 4000000 in
set_option maxRecDepth 100000 in
theorem kX6_isTie (l : Launch) (D : va_G) (E : Nat → Nat) (q : Nat → Nat) (σ : St) (k : Int) (hwf : WfM σ) (hr : (-2147483648 ≤ k ∧ k < 2147483648)) : CtI l D E yX6_isTie wsX6_isTie ({ frames := 1, cells := 0, slots := 0, locals := 22 } : Room) [.ref (q 0), .int (jI k)] (MW E q σ) (MW E q) (fun (rv : Int) (uu : St) => σ = uu ∧ ((rv = 1 ∧ (0 ≤ k ∧ k < σ 4 0)) ∨ (rv = 0 ∧ ¬ (0 ≤ k ∧ k < σ 4 0)))) := by
  refine mk_I (cc := cX6_isTie) (maxL := 2) (ret := some .boolean) (by decide) rfl (Nat.le_of_ble_eq_true rfl) ?_
  intro p e s m args below meth c A X hret
  have hin6 : ∀ x ∈ u_ws RX6 TX6 19, x ∈ wsX6_isTie := fun _ h => List.mem_cons_of_mem _ (List.mem_append_right _ h)
  refine z_lv (lv' := [(0, .ref (q 0)), (1, .int (jI k))]) [0, 1] rfl ?_
  obtain ⟨n0, n3, n4, n13⟩ := hwf.n
  refine z_iload_n (pc' := 1) X dX6_isTie_0 rfl 1 rfl rfl ?_
  refine z_iconst (pc' := 2) X dX6_isTie_1 rfl ?_
  refine z_aload_n (pc' := 3) X dX6_isTie_2 rfl 0 rfl rfl ?_
  refine z_get (pc' := 6) (C := RX6) (ref := "PivotBeatsModel") (T := TX6) (N := 19) (v := .int (jI (σ 4 0))) X dX6_isTie_3 rfl hin6 0 rfl rfl 4 (by decide) (by decide +kernel) rfl rfl ?_
  refine z_iconst (pc' := 7) X dX6_isTie_6 rfl ?_
  refine z_isub (pc' := 8) X dX6_isTie_7 rfl ?_
  refine z_callPI (pc' := 11) (S := Unit) (As := [.int (jI k), .int (jI 0), .int (jI ((σ 4 0) - 1))]) (rest := []) X dX6_isTie_8 rfl (kX6_isIn l D E k 0 ((σ 4 0) - 1)  (by omega)) (va_cwS 3 X.1.2.2.2.2 gX6_isTie_X6_isIn rfl rfl rfl (by decide +kernel) ⟨Nat.le_of_ble_eq_true rfl, Nat.le_of_ble_eq_true rfl⟩) rfl rfl (Nat.le_of_ble_eq_true rfl) (fun r8 u8 hp8 => ?_)
  skip
  rcases hp8 with ⟨rfl, hp8⟩ | ⟨rfl, hp8⟩
  · exact z_zret (post := (fun (rv : Int) (uu : St) => σ = uu ∧ ((rv = 1 ∧ (0 ≤ k ∧ k < σ 4 0)) ∨ (rv = 0 ∧ ¬ (0 ≤ k ∧ k < σ 4 0))))) X dX6_isTie_11 hret σ (by first | decide | omega) (⟨rfl, Or.inl ⟨rfl, by omega⟩⟩)
  · exact z_zret (post := (fun (rv : Int) (uu : St) => σ = uu ∧ ((rv = 1 ∧ (0 ≤ k ∧ k < σ 4 0)) ∨ (rv = 0 ∧ ¬ (0 ≤ k ∧ k < σ 4 0))))) X dX6_isTie_11 hret σ (by first | decide | omega) (⟨rfl, Or.inr ⟨rfl, by omega⟩⟩)
set_option maxHeartbeats 4000000 in
set_option maxRecDepth 100000 in
theorem kX6_section (l : Launch) (D : va_G) (E : Nat → Nat) (q : Nat → Nat) (σ : St) (beats : Int) (hwf : WfM σ) (hr : (-2147483648 ≤ beats ∧ beats < 2147483648)) : CtI l D E yX6_section wsX6_section ({ frames := 1, cells := 0, slots := 0, locals := 22 } : Room) [.ref (q 0), .int (jI beats)] (MW E q σ) (MW E q) (fun (rv : Int) (uu : St) => ((¬ (1 ≤ beats ∧ beats ≤ 99) ∧ rv = -2 ∧ uu = σ) ∨ ((1 ≤ beats ∧ beats ≤ 99) ∧ σ 0 0 = 7 ∧ rv = -4 ∧ uu = σ) ∨ ((1 ≤ beats ∧ beats ≤ 99) ∧ ¬ σ 0 0 = 7 ∧ rv = σ 0 0 ∧ uu = up (up (up σ 1 (σ 0 0) beats) 2 (σ 0 0) (-9)) 0 0 (σ 0 0 + 1)))) := by
  refine mk_I (cc := cX6_section) (maxL := 2) (ret := some .int) (by decide) rfl (Nat.le_of_ble_eq_true rfl) ?_
  intro p e s m args below meth c A X hret
  have hin6 : ∀ x ∈ u_ws RX6 TX6 19, x ∈ wsX6_section := fun _ h => List.mem_cons_of_mem _ (List.mem_append_right _ h)
  refine z_lv (lv' := [(0, .ref (q 0)), (1, .int (jI beats))]) [0, 1] rfl ?_
  obtain ⟨n0, n3, n4, n13⟩ := hwf.n
  refine z_iload_n (pc' := 1) X dX6_section_0 rfl 1 rfl rfl ?_
  refine z_iconst (pc' := 2) X dX6_section_1 rfl ?_
  refine z_bipush (pc' := 4) X dX6_section_2 rfl rfl ?_
  refine z_callPI (pc' := 7) (S := Unit) (As := [.int (jI beats), .int (jI 1), .int (jI 99)]) (rest := []) X dX6_section_4 rfl (kX6_isIn l D E beats 1 99  (by omega)) (va_cwS 3 X.1.2.2.2.2 gX6_section_X6_isIn rfl rfl rfl (by decide +kernel) ⟨Nat.le_of_ble_eq_true rfl, Nat.le_of_ble_eq_true rfl⟩) rfl rfl (Nat.le_of_ble_eq_true rfl) (fun r4 u4 hp4 => ?_)
  skip
  rcases hp4 with ⟨rfl, hp4⟩ | ⟨rfl, hp4⟩
  · refine z_if_ne (tgt := 13) (pc' := 10) X dX6_section_7 (by decide) rfl (by omega) (fun _ => ?_) (fun h => absurd h (by decide))
    refine z_aload_n (pc' := 14) X dX6_section_13 rfl 0 rfl rfl ?_
    refine z_get (pc' := 17) (C := RX6) (ref := "PivotBeatsModel") (T := TX6) (N := 19) (v := .int (jI (σ 0 0))) X dX6_section_14 rfl hin6 0 rfl rfl 0 (by decide) (by decide +kernel) rfl rfl ?_
    refine z_bipush (pc' := 19) X dX6_section_17 rfl rfl ?_
    refine z_icmp_ne (tgt := 25) (pc' := 22) X dX6_section_19 (by decide) rfl (by omega) (fun h19 => ?_) (fun h19 => ?_)
    · refine z_aload_n (pc' := 26) X dX6_section_25 rfl 0 rfl rfl ?_
      refine z_get (pc' := 29) (C := RX6) (ref := "PivotBeatsModel") (T := TX6) (N := 19) (v := .ref (q 1)) X dX6_section_26 rfl hin6 0 rfl rfl 1 (by decide) (by decide +kernel) rfl rfl ?_
      refine z_aload_n (pc' := 30) X dX6_section_29 rfl 0 rfl rfl ?_
      refine z_get (pc' := 33) (C := RX6) (ref := "PivotBeatsModel") (T := TX6) (N := 19) (v := .int (jI (σ 0 0))) X dX6_section_30 rfl hin6 0 rfl rfl 0 (by decide) (by decide +kernel) rfl rfl ?_
      refine z_iload_n (pc' := 34) X dX6_section_33 rfl 1 rfl rfl ?_
      refine z_iast (pc' := 35) (f := σ 1) (n := 7) (w' := MW E q (up σ 1 (σ 0 0) beats)) X dX6_section_34 rfl 1 rfl (by decide) (by omega) rfl ?_
      refine z_aload_n (pc' := 36) X dX6_section_35 rfl 0 rfl rfl ?_
      refine z_get (pc' := 39) (C := RX6) (ref := "PivotBeatsModel") (T := TX6) (N := 19) (v := .ref (q 2)) X dX6_section_36 rfl hin6 0 rfl rfl 2 (by decide) (by decide +kernel) rfl rfl ?_
      refine z_aload_n (pc' := 40) X dX6_section_39 rfl 0 rfl rfl ?_
      refine z_get (pc' := 43) (C := RX6) (ref := "PivotBeatsModel") (T := TX6) (N := 19) (v := .int (jI (σ 0 0))) X dX6_section_40 rfl hin6 0 rfl rfl 0 (by decide) (by decide +kernel) rfl rfl ?_
      refine z_bipush (pc' := 45) X dX6_section_43 rfl rfl ?_
      refine z_iast (pc' := 46) (f := σ 2) (n := 7) (w' := MW E q (up (up σ 1 (σ 0 0) beats) 2 (σ 0 0) (-9))) X dX6_section_45 rfl 2 rfl (by decide) (by omega) rfl ?_
      refine z_aload_n (pc' := 47) X dX6_section_46 rfl 0 rfl rfl ?_
      refine z_dup (pc' := 48) X dX6_section_47 rfl rfl ?_
      refine z_get (pc' := 51) (C := RX6) (ref := "PivotBeatsModel") (T := TX6) (N := 19) (v := .int (jI (σ 0 0))) X dX6_section_48 rfl hin6 0 rfl rfl 0 (by decide) (by decide +kernel) rfl rfl ?_
      refine z_iconst (pc' := 52) X dX6_section_51 rfl ?_
      refine z_iadd (pc' := 53) X dX6_section_52 rfl ?_
      refine z_put (pc' := 56) (C := RX6) (ref := "PivotBeatsModel") (T := TX6) (N := 19) (ty := .int) (w' := MW E q (up (up (up σ 1 (σ 0 0) beats) 2 (σ 0 0) (-9)) 0 0 ((σ 0 0) + 1))) X dX6_section_53 rfl hin6 tyX6 tyX6_ok nmX6 0 rfl rfl 0 (by decide) (by decide +kernel) rfl rfl (by decide +kernel) rfl rfl (Nat.le_of_ble_eq_true rfl) rfl ?_
      refine z_aload_n (pc' := 57) X dX6_section_56 rfl 0 rfl rfl ?_
      refine z_get (pc' := 60) (C := RX6) (ref := "PivotBeatsModel") (T := TX6) (N := 19) (v := .int (jI ((σ 0 0) + 1))) X dX6_section_57 rfl hin6 0 rfl rfl 0 (by decide) (by decide +kernel) rfl rfl ?_
      refine z_iconst (pc' := 61) X dX6_section_60 rfl ?_
      refine z_isub (pc' := 62) X dX6_section_61 rfl ?_
      exact z_iret (post := (fun (rv : Int) (uu : St) => ((¬ (1 ≤ beats ∧ beats ≤ 99) ∧ rv = -2 ∧ uu = σ) ∨ ((1 ≤ beats ∧ beats ≤ 99) ∧ σ 0 0 = 7 ∧ rv = -4 ∧ uu = σ) ∨ ((1 ≤ beats ∧ beats ≤ 99) ∧ ¬ σ 0 0 = 7 ∧ rv = σ 0 0 ∧ uu = up (up (up σ 1 (σ 0 0) beats) 2 (σ 0 0) (-9)) 0 0 (σ 0 0 + 1))))) X dX6_section_62 hret (up (up (up σ 1 (σ 0 0) beats) 2 (σ 0 0) (-9)) 0 0 ((σ 0 0) + 1)) (Or.inr (Or.inr ⟨by omega, by omega, by omega, rfl⟩))
    · refine z_bipush (pc' := 24) X dX6_section_22 rfl rfl ?_
      exact z_iret (post := (fun (rv : Int) (uu : St) => ((¬ (1 ≤ beats ∧ beats ≤ 99) ∧ rv = -2 ∧ uu = σ) ∨ ((1 ≤ beats ∧ beats ≤ 99) ∧ σ 0 0 = 7 ∧ rv = -4 ∧ uu = σ) ∨ ((1 ≤ beats ∧ beats ≤ 99) ∧ ¬ σ 0 0 = 7 ∧ rv = σ 0 0 ∧ uu = up (up (up σ 1 (σ 0 0) beats) 2 (σ 0 0) (-9)) 0 0 (σ 0 0 + 1))))) X dX6_section_24 hret σ (Or.inr (Or.inl ⟨by omega, by omega, rfl, rfl⟩))
  · refine z_if_ne (tgt := 13) (pc' := 10) X dX6_section_7 (by decide) rfl (by omega) (fun h => absurd h (by decide)) (fun _ => ?_)
    refine z_bipush (pc' := 12) X dX6_section_10 rfl rfl ?_
    exact z_iret (post := (fun (rv : Int) (uu : St) => ((¬ (1 ≤ beats ∧ beats ≤ 99) ∧ rv = -2 ∧ uu = σ) ∨ ((1 ≤ beats ∧ beats ≤ 99) ∧ σ 0 0 = 7 ∧ rv = -4 ∧ uu = σ) ∨ ((1 ≤ beats ∧ beats ≤ 99) ∧ ¬ σ 0 0 = 7 ∧ rv = σ 0 0 ∧ uu = up (up (up σ 1 (σ 0 0) beats) 2 (σ 0 0) (-9)) 0 0 (σ 0 0 + 1))))) X dX6_section_12 hret σ (Or.inl ⟨by omega, rfl, rfl⟩)
set_option maxHeartbeats 4000000 in
set_option maxRecDepth 100000 in
theorem kX6_beats (l : Launch) (D : va_G) (E : Nat → Nat) (q : Nat → Nat) (σ : St) (s_ v : Int) (hwf : WfM σ) (hr : (-2147483648 ≤ s_ ∧ s_ < 2147483648) ∧ (-2147483648 ≤ v ∧ v < 2147483648)) : CtI l D E yX6_beats wsX6_beats ({ frames := 2, cells := 0, slots := 0, locals := 43 } : Room) [.ref (q 0), .int (jI s_), .int (jI v)] (MW E q σ) (MW E q) (fun (rv : Int) (uu : St) => ((¬ (0 ≤ s_ ∧ s_ < σ 0 0) ∧ rv = -1 ∧ uu = σ) ∨ ((0 ≤ s_ ∧ s_ < σ 0 0) ∧ ¬ (1 ≤ v ∧ v ≤ 99) ∧ rv = -2 ∧ uu = σ) ∨ ((0 ≤ s_ ∧ s_ < σ 0 0) ∧ (1 ≤ v ∧ v ≤ 99) ∧ rv = σ 1 s_ ∧ uu = up σ 1 s_ v))) := by
  refine mk_I (cc := cX6_beats) (maxL := 4) (ret := some .int) (by decide) rfl (Nat.le_of_ble_eq_true rfl) ?_
  intro p e s m args below meth c A X hret
  have hin6 : ∀ x ∈ u_ws RX6 TX6 19, x ∈ wsX6_beats := fun _ h => List.mem_cons_of_mem _ (List.mem_append_right _ h)
  refine z_lv (lv' := [(0, .ref (q 0)), (1, .int (jI s_)), (2, .int (jI v))]) [0, 1, 2] rfl ?_
  obtain ⟨n0, n3, n4, n13⟩ := hwf.n
  refine z_aload_n (pc' := 1) X dX6_beats_0 rfl 0 rfl rfl ?_
  refine z_iload_n (pc' := 2) X dX6_beats_1 rfl 1 rfl rfl ?_
  refine z_callVI (pc' := 5) (S := St) (As := [.int (jI s_)]) (rest := []) X dX6_beats_2 rfl (kX6_isSection l D E q σ s_  (hwf) (by omega)) (cwV 1 X.1.2.2.2.2 gX6_beats_X6_isSection rfl rfl rfl (by decide +kernel) ⟨Nat.le_of_ble_eq_true rfl, Nat.le_of_ble_eq_true rfl⟩) 0 rfl rfl rfl rfl (Nat.le_of_ble_eq_true rfl) (fun r2 u2 hp2 => ?_)
  obtain ⟨rfl, hp2⟩ := hp2
  rcases hp2 with ⟨rfl, hp2⟩ | ⟨rfl, hp2⟩
  · refine z_if_ne (tgt := 10) (pc' := 8) X dX6_beats_5 (by decide) rfl (by omega) (fun _ => ?_) (fun h => absurd h (by decide))
    refine z_iload_n (pc' := 11) X dX6_beats_10 rfl 2 rfl rfl ?_
    refine z_iconst (pc' := 12) X dX6_beats_11 rfl ?_
    refine z_bipush (pc' := 14) X dX6_beats_12 rfl rfl ?_
    refine z_callPI (pc' := 17) (S := Unit) (As := [.int (jI v), .int (jI 1), .int (jI 99)]) (rest := []) X dX6_beats_14 rfl (kX6_isIn l D E v 1 99  (by omega)) (va_cwS 3 X.1.2.2.2.2 gX6_beats_X6_isIn rfl rfl rfl (by decide +kernel) ⟨Nat.le_of_ble_eq_true rfl, Nat.le_of_ble_eq_true rfl⟩) rfl rfl (Nat.le_of_ble_eq_true rfl) (fun r14 u14 hp14 => ?_)
    skip
    rcases hp14 with ⟨rfl, hp14⟩ | ⟨rfl, hp14⟩
    · refine z_if_ne (tgt := 23) (pc' := 20) X dX6_beats_17 (by decide) rfl (by omega) (fun _ => ?_) (fun h => absurd h (by decide))
      refine z_aload_n (pc' := 24) X dX6_beats_23 rfl 0 rfl rfl ?_
      refine z_get (pc' := 27) (C := RX6) (ref := "PivotBeatsModel") (T := TX6) (N := 19) (v := .ref (q 1)) X dX6_beats_24 rfl hin6 0 rfl rfl 1 (by decide) (by decide +kernel) rfl rfl ?_
      refine z_iload_n (pc' := 28) X dX6_beats_27 rfl 1 rfl rfl ?_
      refine z_iald (pc' := 29) (f := σ 1) (n := 7) X dX6_beats_28 rfl 1 rfl (by decide) (by omega) ?_
      refine z_istore_n (pc' := 30) (lv' := [(3, .int (jI (σ 1 s_))), (0, .ref (q 0)), (1, .int (jI s_)), (2, .int (jI v))]) X dX6_beats_29 rfl rfl (by decide) rfl ?_
      refine z_aload_n (pc' := 31) X dX6_beats_30 rfl 1 rfl rfl ?_
      refine z_get (pc' := 34) (C := RX6) (ref := "PivotBeatsModel") (T := TX6) (N := 19) (v := .ref (q 1)) X dX6_beats_31 rfl hin6 0 rfl rfl 1 (by decide) (by decide +kernel) rfl rfl ?_
      refine z_iload_n (pc' := 35) X dX6_beats_34 rfl 2 rfl rfl ?_
      refine z_iload_n (pc' := 36) X dX6_beats_35 rfl 3 rfl rfl ?_
      refine z_iast (pc' := 37) (f := σ 1) (n := 7) (w' := MW E q (up σ 1 s_ v)) X dX6_beats_36 rfl 1 rfl (by decide) (by omega) rfl ?_
      refine z_iload_n (pc' := 38) X dX6_beats_37 rfl 0 rfl rfl ?_
      exact z_iret (post := (fun (rv : Int) (uu : St) => ((¬ (0 ≤ s_ ∧ s_ < σ 0 0) ∧ rv = -1 ∧ uu = σ) ∨ ((0 ≤ s_ ∧ s_ < σ 0 0) ∧ ¬ (1 ≤ v ∧ v ≤ 99) ∧ rv = -2 ∧ uu = σ) ∨ ((0 ≤ s_ ∧ s_ < σ 0 0) ∧ (1 ≤ v ∧ v ≤ 99) ∧ rv = σ 1 s_ ∧ uu = up σ 1 s_ v)))) X dX6_beats_38 hret (up σ 1 s_ v) (Or.inr (Or.inr ⟨hp2, hp14, rfl, rfl⟩))
    · refine z_if_ne (tgt := 23) (pc' := 20) X dX6_beats_17 (by decide) rfl (by omega) (fun h => absurd h (by decide)) (fun _ => ?_)
      refine z_bipush (pc' := 22) X dX6_beats_20 rfl rfl ?_
      exact z_iret (post := (fun (rv : Int) (uu : St) => ((¬ (0 ≤ s_ ∧ s_ < σ 0 0) ∧ rv = -1 ∧ uu = σ) ∨ ((0 ≤ s_ ∧ s_ < σ 0 0) ∧ ¬ (1 ≤ v ∧ v ≤ 99) ∧ rv = -2 ∧ uu = σ) ∨ ((0 ≤ s_ ∧ s_ < σ 0 0) ∧ (1 ≤ v ∧ v ≤ 99) ∧ rv = σ 1 s_ ∧ uu = up σ 1 s_ v)))) X dX6_beats_22 hret σ (Or.inr (Or.inl ⟨hp2, hp14, rfl, rfl⟩))
  · refine z_if_ne (tgt := 10) (pc' := 8) X dX6_beats_5 (by decide) rfl (by omega) (fun h => absurd h (by decide)) (fun _ => ?_)
    refine z_iconst (pc' := 9) X dX6_beats_8 rfl ?_
    exact z_iret (post := (fun (rv : Int) (uu : St) => ((¬ (0 ≤ s_ ∧ s_ < σ 0 0) ∧ rv = -1 ∧ uu = σ) ∨ ((0 ≤ s_ ∧ s_ < σ 0 0) ∧ ¬ (1 ≤ v ∧ v ≤ 99) ∧ rv = -2 ∧ uu = σ) ∨ ((0 ≤ s_ ∧ s_ < σ 0 0) ∧ (1 ≤ v ∧ v ≤ 99) ∧ rv = σ 1 s_ ∧ uu = up σ 1 s_ v)))) X dX6_beats_9 hret σ (Or.inl ⟨hp2, rfl, rfl⟩)
set_option maxHeartbeats 4000000 in
set_option maxRecDepth 100000 in
theorem kX6_start (l : Launch) (D : va_G) (E : Nat → Nat) (q : Nat → Nat) (σ : St) (v : Int) (hwf : WfM σ) (hr : (-2147483648 ≤ v ∧ v < 2147483648)) : CtI l D E yX6_start wsX6_start ({ frames := 1, cells := 0, slots := 0, locals := 22 } : Room) [.ref (q 0), .int (jI v)] (MW E q σ) (MW E q) (fun (rv : Int) (uu : St) => ((¬ (20 ≤ v ∧ v ≤ 400) ∧ rv = -2 ∧ uu = σ) ∨ ((20 ≤ v ∧ v ≤ 400) ∧ rv = σ 3 0 ∧ uu = up σ 3 0 v))) := by
  refine mk_I (cc := cX6_start) (maxL := 3) (ret := some .int) (by decide) rfl (Nat.le_of_ble_eq_true rfl) ?_
  intro p e s m args below meth c A X hret
  have hin6 : ∀ x ∈ u_ws RX6 TX6 19, x ∈ wsX6_start := fun _ h => List.mem_cons_of_mem _ (List.mem_append_right _ h)
  refine z_lv (lv' := [(0, .ref (q 0)), (1, .int (jI v))]) [0, 1] rfl ?_
  obtain ⟨n0, n3, n4, n13⟩ := hwf.n
  refine z_iload_n (pc' := 1) X dX6_start_0 rfl 1 rfl rfl ?_
  refine z_bipush (pc' := 3) X dX6_start_1 rfl rfl ?_
  refine z_sipush (pc' := 6) X dX6_start_3 rfl rfl ?_
  refine z_callPI (pc' := 9) (S := Unit) (As := [.int (jI v), .int (jI 20), .int (jI 400)]) (rest := []) X dX6_start_6 rfl (kX6_isIn l D E v 20 400  (by omega)) (va_cwS 3 X.1.2.2.2.2 gX6_start_X6_isIn rfl rfl rfl (by decide +kernel) ⟨Nat.le_of_ble_eq_true rfl, Nat.le_of_ble_eq_true rfl⟩) rfl rfl (Nat.le_of_ble_eq_true rfl) (fun r6 u6 hp6 => ?_)
  skip
  rcases hp6 with ⟨rfl, hp6⟩ | ⟨rfl, hp6⟩
  · refine z_if_ne (tgt := 15) (pc' := 12) X dX6_start_9 (by decide) rfl (by omega) (fun _ => ?_) (fun h => absurd h (by decide))
    refine z_aload_n (pc' := 16) X dX6_start_15 rfl 0 rfl rfl ?_
    refine z_get (pc' := 19) (C := RX6) (ref := "PivotBeatsModel") (T := TX6) (N := 19) (v := .int (jI (σ 3 0))) X dX6_start_16 rfl hin6 0 rfl rfl 3 (by decide) (by decide +kernel) rfl rfl ?_
    refine z_istore_n (pc' := 20) (lv' := [(2, .int (jI (σ 3 0))), (0, .ref (q 0)), (1, .int (jI v))]) X dX6_start_19 rfl rfl (by decide) rfl ?_
    refine z_aload_n (pc' := 21) X dX6_start_20 rfl 1 rfl rfl ?_
    refine z_iload_n (pc' := 22) X dX6_start_21 rfl 2 rfl rfl ?_
    refine z_put (pc' := 25) (C := RX6) (ref := "PivotBeatsModel") (T := TX6) (N := 19) (ty := .int) (w' := MW E q (up σ 3 0 v)) X dX6_start_22 rfl hin6 tyX6 tyX6_ok nmX6 0 rfl rfl 3 (by decide) (by decide +kernel) rfl rfl (by decide +kernel) rfl rfl (Nat.le_of_ble_eq_true rfl) rfl ?_
    refine z_iload_n (pc' := 26) X dX6_start_25 rfl 0 rfl rfl ?_
    exact z_iret (post := (fun (rv : Int) (uu : St) => ((¬ (20 ≤ v ∧ v ≤ 400) ∧ rv = -2 ∧ uu = σ) ∨ ((20 ≤ v ∧ v ≤ 400) ∧ rv = σ 3 0 ∧ uu = up σ 3 0 v)))) X dX6_start_26 hret (up σ 3 0 v) (by first | exact Or.inl ⟨by omega, rfl, rfl⟩ | exact Or.inr ⟨by omega, rfl, rfl⟩)
  · refine z_if_ne (tgt := 15) (pc' := 12) X dX6_start_9 (by decide) rfl (by omega) (fun h => absurd h (by decide)) (fun _ => ?_)
    refine z_bipush (pc' := 14) X dX6_start_12 rfl rfl ?_
    exact z_iret (post := (fun (rv : Int) (uu : St) => ((¬ (20 ≤ v ∧ v ≤ 400) ∧ rv = -2 ∧ uu = σ) ∨ ((20 ≤ v ∧ v ≤ 400) ∧ rv = σ 3 0 ∧ uu = up σ 3 0 v)))) X dX6_start_14 hret σ (by first | exact Or.inl ⟨by omega, rfl, rfl⟩ | exact Or.inr ⟨by omega, rfl, rfl⟩)
set_option maxHeartbeats 4000000 in
set_option maxRecDepth 100000 in
theorem kX6_tie (l : Launch) (D : va_G) (E : Nat → Nat) (q : Nat → Nat) (σ : St) (a v b w ear : Int) (hwf : WfM σ) (hr : (-2147483648 ≤ a ∧ a < 2147483648) ∧ (-2147483648 ≤ v ∧ v < 2147483648) ∧ (-2147483648 ≤ b ∧ b < 2147483648) ∧ (-2147483648 ≤ w ∧ w < 2147483648) ∧ (-2147483648 ≤ ear ∧ ear < 2147483648)) : CtI l D E yX6_tie wsX6_tie ({ frames := 2, cells := 0, slots := 0, locals := 43 } : Room) [.ref (q 0), .int (jI a), .int (jI v), .int (jI b), .int (jI w), .int (jI ear)] (MW E q σ) (MW E q) (fun (rv : Int) (uu : St) => ((¬ ((0 ≤ a ∧ a < σ 0 0) ∧ (0 ≤ b ∧ b < σ 0 0) ∧ ¬ a = b ∧ (0 ≤ v ∧ v ≤ 19) ∧ (0 ≤ w ∧ w ≤ 19)) ∧ rv = -1 ∧ uu = σ) ∨ (((0 ≤ a ∧ a < σ 0 0) ∧ (0 ≤ b ∧ b < σ 0 0) ∧ ¬ a = b ∧ (0 ≤ v ∧ v ≤ 19) ∧ (0 ≤ w ∧ w ≤ 19)) ∧ ¬ (0 ≤ ear ∧ ear ≤ 9) ∧ rv = -2 ∧ uu = σ) ∨ (((0 ≤ a ∧ a < σ 0 0) ∧ (0 ≤ b ∧ b < σ 0 0) ∧ ¬ a = b ∧ (0 ≤ v ∧ v ≤ 19) ∧ (0 ≤ w ∧ w ≤ 19)) ∧ (0 ≤ ear ∧ ear ≤ 9) ∧ σ 4 0 = 12 ∧ rv = -4 ∧ uu = σ) ∨ (((0 ≤ a ∧ a < σ 0 0) ∧ (0 ≤ b ∧ b < σ 0 0) ∧ ¬ a = b ∧ (0 ≤ v ∧ v ≤ 19) ∧ (0 ≤ w ∧ w ≤ 19)) ∧ (0 ≤ ear ∧ ear ≤ 9) ∧ ¬ σ 4 0 = 12 ∧ rv = σ 4 0 ∧ uu = up (up (up (up (up (up σ 5 (5 * σ 4 0) a) 5 (5 * σ 4 0 + 1) v) 5 (5 * σ 4 0 + 2) b) 5 (5 * σ 4 0 + 3) w) 5 (5 * σ 4 0 + 4) ear) 4 0 (σ 4 0 + 1)))) := by
  refine mk_I (cc := cX6_tie) (maxL := 6) (ret := some .int) (by decide) rfl (Nat.le_of_ble_eq_true rfl) ?_
  intro p e s m args below meth c A X hret
  have hin6 : ∀ x ∈ u_ws RX6 TX6 19, x ∈ wsX6_tie := fun _ h => List.mem_cons_of_mem _ (List.mem_append_right _ h)
  refine z_lv (lv' := [(0, .ref (q 0)), (1, .int (jI a)), (2, .int (jI v)), (3, .int (jI b)), (4, .int (jI w)), (5, .int (jI ear))]) [0, 1, 2, 3, 4, 5] rfl ?_
  obtain ⟨n0, n3, n4, n13⟩ := hwf.n
  refine z_aload_n (pc' := 1) X dX6_tie_0 rfl 0 rfl rfl ?_
  refine z_iload_n (pc' := 2) X dX6_tie_1 rfl 1 rfl rfl ?_
  refine z_callVI (pc' := 5) (S := St) (As := [.int (jI a)]) (rest := []) X dX6_tie_2 rfl (kX6_isSection l D E q σ a  (hwf) (by omega)) (cwV 1 X.1.2.2.2.2 gX6_tie_X6_isSection rfl rfl rfl (by decide +kernel) ⟨Nat.le_of_ble_eq_true rfl, Nat.le_of_ble_eq_true rfl⟩) 0 rfl rfl rfl rfl (Nat.le_of_ble_eq_true rfl) (fun r2 u2 hp2 => ?_)
  obtain ⟨rfl, hp2⟩ := hp2
  rcases hp2 with ⟨rfl, hp2⟩ | ⟨rfl, hp2⟩
  · refine z_if_eq (tgt := 36) (pc' := 8) X dX6_tie_5 (by decide) rfl (by omega) (fun h => absurd h (by decide)) (fun _ => ?_)
    refine z_aload_n (pc' := 9) X dX6_tie_8 rfl 0 rfl rfl ?_
    refine z_iload_n (pc' := 10) X dX6_tie_9 rfl 3 rfl rfl ?_
    refine z_callVI (pc' := 13) (S := St) (As := [.int (jI b)]) (rest := []) X dX6_tie_10 rfl (kX6_isSection l D E q σ b  (hwf) (by omega)) (cwV 1 X.1.2.2.2.2 gX6_tie_X6_isSection rfl rfl rfl (by decide +kernel) ⟨Nat.le_of_ble_eq_true rfl, Nat.le_of_ble_eq_true rfl⟩) 0 rfl rfl rfl rfl (Nat.le_of_ble_eq_true rfl) (fun r10 u10 hp10 => ?_)
    obtain ⟨rfl, hp10⟩ := hp10
    rcases hp10 with ⟨rfl, hp10⟩ | ⟨rfl, hp10⟩
    · refine z_if_eq (tgt := 36) (pc' := 16) X dX6_tie_13 (by decide) rfl (by omega) (fun h => absurd h (by decide)) (fun _ => ?_)
      refine z_iload_n (pc' := 17) X dX6_tie_16 rfl 1 rfl rfl ?_
      refine z_iload_n (pc' := 18) X dX6_tie_17 rfl 3 rfl rfl ?_
      refine z_icmp_eq (tgt := 36) (pc' := 21) X dX6_tie_18 (by decide) rfl (by omega) (fun h18 => ?_) (fun h18 => ?_)
      · refine z_iconst (pc' := 37) X dX6_tie_36 rfl ?_
        exact z_iret (post := (fun (rv : Int) (uu : St) => ((¬ ((0 ≤ a ∧ a < σ 0 0) ∧ (0 ≤ b ∧ b < σ 0 0) ∧ ¬ a = b ∧ (0 ≤ v ∧ v ≤ 19) ∧ (0 ≤ w ∧ w ≤ 19)) ∧ rv = -1 ∧ uu = σ) ∨ (((0 ≤ a ∧ a < σ 0 0) ∧ (0 ≤ b ∧ b < σ 0 0) ∧ ¬ a = b ∧ (0 ≤ v ∧ v ≤ 19) ∧ (0 ≤ w ∧ w ≤ 19)) ∧ ¬ (0 ≤ ear ∧ ear ≤ 9) ∧ rv = -2 ∧ uu = σ) ∨ (((0 ≤ a ∧ a < σ 0 0) ∧ (0 ≤ b ∧ b < σ 0 0) ∧ ¬ a = b ∧ (0 ≤ v ∧ v ≤ 19) ∧ (0 ≤ w ∧ w ≤ 19)) ∧ (0 ≤ ear ∧ ear ≤ 9) ∧ σ 4 0 = 12 ∧ rv = -4 ∧ uu = σ) ∨ (((0 ≤ a ∧ a < σ 0 0) ∧ (0 ≤ b ∧ b < σ 0 0) ∧ ¬ a = b ∧ (0 ≤ v ∧ v ≤ 19) ∧ (0 ≤ w ∧ w ≤ 19)) ∧ (0 ≤ ear ∧ ear ≤ 9) ∧ ¬ σ 4 0 = 12 ∧ rv = σ 4 0 ∧ uu = up (up (up (up (up (up σ 5 (5 * σ 4 0) a) 5 (5 * σ 4 0 + 1) v) 5 (5 * σ 4 0 + 2) b) 5 (5 * σ 4 0 + 3) w) 5 (5 * σ 4 0 + 4) ear) 4 0 (σ 4 0 + 1))))) X dX6_tie_37 hret σ (Or.inl ⟨by omega, rfl, rfl⟩)
      · refine z_iload_n (pc' := 22) X dX6_tie_21 rfl 2 rfl rfl ?_
        refine z_callPI (pc' := 25) (S := Unit) (As := [.int (jI v)]) (rest := []) X dX6_tie_22 rfl (kX6_isValue l D E v  (by omega)) (va_cwS 1 X.1.2.2.2.2 gX6_tie_X6_isValue rfl rfl rfl (by decide +kernel) ⟨Nat.le_of_ble_eq_true rfl, Nat.le_of_ble_eq_true rfl⟩) rfl rfl (Nat.le_of_ble_eq_true rfl) (fun r22 u22 hp22 => ?_)
        skip
        rcases hp22 with ⟨rfl, hp22⟩ | ⟨rfl, hp22⟩
        · refine z_if_eq (tgt := 36) (pc' := 28) X dX6_tie_25 (by decide) rfl (by omega) (fun h => absurd h (by decide)) (fun _ => ?_)
          refine z_iload (pc' := 30) X dX6_tie_28 rfl 4 rfl ?_
          refine z_callPI (pc' := 33) (S := Unit) (As := [.int (jI w)]) (rest := []) X dX6_tie_30 rfl (kX6_isValue l D E w  (by omega)) (va_cwS 1 X.1.2.2.2.2 gX6_tie_X6_isValue rfl rfl rfl (by decide +kernel) ⟨Nat.le_of_ble_eq_true rfl, Nat.le_of_ble_eq_true rfl⟩) rfl rfl (Nat.le_of_ble_eq_true rfl) (fun r30 u30 hp30 => ?_)
          skip
          rcases hp30 with ⟨rfl, hp30⟩ | ⟨rfl, hp30⟩
          · refine z_if_ne (tgt := 38) (pc' := 36) X dX6_tie_33 (by decide) rfl (by omega) (fun _ => ?_) (fun h => absurd h (by decide))
            refine z_iload (pc' := 40) X dX6_tie_38 rfl 5 rfl ?_
            refine z_iconst (pc' := 41) X dX6_tie_40 rfl ?_
            refine z_bipush (pc' := 43) X dX6_tie_41 rfl rfl ?_
            refine z_callPI (pc' := 46) (S := Unit) (As := [.int (jI ear), .int (jI 0), .int (jI 9)]) (rest := []) X dX6_tie_43 rfl (kX6_isIn l D E ear 0 9  (by omega)) (va_cwS 3 X.1.2.2.2.2 gX6_tie_X6_isIn rfl rfl rfl (by decide +kernel) ⟨Nat.le_of_ble_eq_true rfl, Nat.le_of_ble_eq_true rfl⟩) rfl rfl (Nat.le_of_ble_eq_true rfl) (fun r43 u43 hp43 => ?_)
            skip
            rcases hp43 with ⟨rfl, hp43⟩ | ⟨rfl, hp43⟩
            · refine z_if_ne (tgt := 52) (pc' := 49) X dX6_tie_46 (by decide) rfl (by omega) (fun _ => ?_) (fun h => absurd h (by decide))
              refine z_aload_n (pc' := 53) X dX6_tie_52 rfl 0 rfl rfl ?_
              refine z_get (pc' := 56) (C := RX6) (ref := "PivotBeatsModel") (T := TX6) (N := 19) (v := .int (jI (σ 4 0))) X dX6_tie_53 rfl hin6 0 rfl rfl 4 (by decide) (by decide +kernel) rfl rfl ?_
              refine z_bipush (pc' := 58) X dX6_tie_56 rfl rfl ?_
              refine z_icmp_ne (tgt := 64) (pc' := 61) X dX6_tie_58 (by decide) rfl (by omega) (fun h58 => ?_) (fun h58 => ?_)
              · refine z_aload_n (pc' := 65) X dX6_tie_64 rfl 0 rfl rfl ?_
                refine z_get (pc' := 68) (C := RX6) (ref := "PivotBeatsModel") (T := TX6) (N := 19) (v := .ref (q 5)) X dX6_tie_65 rfl hin6 0 rfl rfl 5 (by decide) (by decide +kernel) rfl rfl ?_
                refine z_iconst (pc' := 69) X dX6_tie_68 rfl ?_
                refine z_aload_n (pc' := 70) X dX6_tie_69 rfl 0 rfl rfl ?_
                refine z_get (pc' := 73) (C := RX6) (ref := "PivotBeatsModel") (T := TX6) (N := 19) (v := .int (jI (σ 4 0))) X dX6_tie_70 rfl hin6 0 rfl rfl 4 (by decide) (by decide +kernel) rfl rfl ?_
                refine z_imul (pc' := 74) X dX6_tie_73 rfl ?_
                refine z_iload_n (pc' := 75) X dX6_tie_74 rfl 1 rfl rfl ?_
                refine z_iast (pc' := 76) (f := σ 5) (n := 60) (w' := MW E q (up σ 5 (5 * (σ 4 0)) a)) X dX6_tie_75 rfl 3 rfl (by decide) (by omega) rfl ?_
                refine z_aload_n (pc' := 77) X dX6_tie_76 rfl 0 rfl rfl ?_
                refine z_get (pc' := 80) (C := RX6) (ref := "PivotBeatsModel") (T := TX6) (N := 19) (v := .ref (q 5)) X dX6_tie_77 rfl hin6 0 rfl rfl 5 (by decide) (by decide +kernel) rfl rfl ?_
                refine z_iconst (pc' := 81) X dX6_tie_80 rfl ?_
                refine z_aload_n (pc' := 82) X dX6_tie_81 rfl 0 rfl rfl ?_
                refine z_get (pc' := 85) (C := RX6) (ref := "PivotBeatsModel") (T := TX6) (N := 19) (v := .int (jI (σ 4 0))) X dX6_tie_82 rfl hin6 0 rfl rfl 4 (by decide) (by decide +kernel) rfl rfl ?_
                refine z_imul (pc' := 86) X dX6_tie_85 rfl ?_
                refine z_iconst (pc' := 87) X dX6_tie_86 rfl ?_
                refine z_iadd (pc' := 88) X dX6_tie_87 rfl ?_
                refine z_iload_n (pc' := 89) X dX6_tie_88 rfl 2 rfl rfl ?_
                refine z_iast (pc' := 90) (f := (up σ 5 (5 * (σ 4 0)) a) 5) (n := 60) (w' := MW E q (up (up σ 5 (5 * (σ 4 0)) a) 5 ((5 * (σ 4 0)) + 1) v)) X dX6_tie_89 rfl 3 rfl (by decide) (by omega) rfl ?_
                refine z_aload_n (pc' := 91) X dX6_tie_90 rfl 0 rfl rfl ?_
                refine z_get (pc' := 94) (C := RX6) (ref := "PivotBeatsModel") (T := TX6) (N := 19) (v := .ref (q 5)) X dX6_tie_91 rfl hin6 0 rfl rfl 5 (by decide) (by decide +kernel) rfl rfl ?_
                refine z_iconst (pc' := 95) X dX6_tie_94 rfl ?_
                refine z_aload_n (pc' := 96) X dX6_tie_95 rfl 0 rfl rfl ?_
                refine z_get (pc' := 99) (C := RX6) (ref := "PivotBeatsModel") (T := TX6) (N := 19) (v := .int (jI (σ 4 0))) X dX6_tie_96 rfl hin6 0 rfl rfl 4 (by decide) (by decide +kernel) rfl rfl ?_
                refine z_imul (pc' := 100) X dX6_tie_99 rfl ?_
                refine z_iconst (pc' := 101) X dX6_tie_100 rfl ?_
                refine z_iadd (pc' := 102) X dX6_tie_101 rfl ?_
                refine z_iload_n (pc' := 103) X dX6_tie_102 rfl 3 rfl rfl ?_
                refine z_iast (pc' := 104) (f := (up (up σ 5 (5 * (σ 4 0)) a) 5 ((5 * (σ 4 0)) + 1) v) 5) (n := 60) (w' := MW E q (up (up (up σ 5 (5 * (σ 4 0)) a) 5 ((5 * (σ 4 0)) + 1) v) 5 ((5 * (σ 4 0)) + 2) b)) X dX6_tie_103 rfl 3 rfl (by decide) (by omega) rfl ?_
                refine z_aload_n (pc' := 105) X dX6_tie_104 rfl 0 rfl rfl ?_
                refine z_get (pc' := 108) (C := RX6) (ref := "PivotBeatsModel") (T := TX6) (N := 19) (v := .ref (q 5)) X dX6_tie_105 rfl hin6 0 rfl rfl 5 (by decide) (by decide +kernel) rfl rfl ?_
                refine z_iconst (pc' := 109) X dX6_tie_108 rfl ?_
                refine z_aload_n (pc' := 110) X dX6_tie_109 rfl 0 rfl rfl ?_
                refine z_get (pc' := 113) (C := RX6) (ref := "PivotBeatsModel") (T := TX6) (N := 19) (v := .int (jI (σ 4 0))) X dX6_tie_110 rfl hin6 0 rfl rfl 4 (by decide) (by decide +kernel) rfl rfl ?_
                refine z_imul (pc' := 114) X dX6_tie_113 rfl ?_
                refine z_iconst (pc' := 115) X dX6_tie_114 rfl ?_
                refine z_iadd (pc' := 116) X dX6_tie_115 rfl ?_
                refine z_iload (pc' := 118) X dX6_tie_116 rfl 4 rfl ?_
                refine z_iast (pc' := 119) (f := (up (up (up σ 5 (5 * (σ 4 0)) a) 5 ((5 * (σ 4 0)) + 1) v) 5 ((5 * (σ 4 0)) + 2) b) 5) (n := 60) (w' := MW E q (up (up (up (up σ 5 (5 * (σ 4 0)) a) 5 ((5 * (σ 4 0)) + 1) v) 5 ((5 * (σ 4 0)) + 2) b) 5 ((5 * (σ 4 0)) + 3) w)) X dX6_tie_118 rfl 3 rfl (by decide) (by omega) rfl ?_
                refine z_aload_n (pc' := 120) X dX6_tie_119 rfl 0 rfl rfl ?_
                refine z_get (pc' := 123) (C := RX6) (ref := "PivotBeatsModel") (T := TX6) (N := 19) (v := .ref (q 5)) X dX6_tie_120 rfl hin6 0 rfl rfl 5 (by decide) (by decide +kernel) rfl rfl ?_
                refine z_iconst (pc' := 124) X dX6_tie_123 rfl ?_
                refine z_aload_n (pc' := 125) X dX6_tie_124 rfl 0 rfl rfl ?_
                refine z_get (pc' := 128) (C := RX6) (ref := "PivotBeatsModel") (T := TX6) (N := 19) (v := .int (jI (σ 4 0))) X dX6_tie_125 rfl hin6 0 rfl rfl 4 (by decide) (by decide +kernel) rfl rfl ?_
                refine z_imul (pc' := 129) X dX6_tie_128 rfl ?_
                refine z_iconst (pc' := 130) X dX6_tie_129 rfl ?_
                refine z_iadd (pc' := 131) X dX6_tie_130 rfl ?_
                refine z_iload (pc' := 133) X dX6_tie_131 rfl 5 rfl ?_
                refine z_iast (pc' := 134) (f := (up (up (up (up σ 5 (5 * (σ 4 0)) a) 5 ((5 * (σ 4 0)) + 1) v) 5 ((5 * (σ 4 0)) + 2) b) 5 ((5 * (σ 4 0)) + 3) w) 5) (n := 60) (w' := MW E q (up (up (up (up (up σ 5 (5 * (σ 4 0)) a) 5 ((5 * (σ 4 0)) + 1) v) 5 ((5 * (σ 4 0)) + 2) b) 5 ((5 * (σ 4 0)) + 3) w) 5 ((5 * (σ 4 0)) + 4) ear)) X dX6_tie_133 rfl 3 rfl (by decide) (by omega) rfl ?_
                refine z_aload_n (pc' := 135) X dX6_tie_134 rfl 0 rfl rfl ?_
                refine z_dup (pc' := 136) X dX6_tie_135 rfl rfl ?_
                refine z_get (pc' := 139) (C := RX6) (ref := "PivotBeatsModel") (T := TX6) (N := 19) (v := .int (jI (σ 4 0))) X dX6_tie_136 rfl hin6 0 rfl rfl 4 (by decide) (by decide +kernel) rfl rfl ?_
                refine z_iconst (pc' := 140) X dX6_tie_139 rfl ?_
                refine z_iadd (pc' := 141) X dX6_tie_140 rfl ?_
                refine z_put (pc' := 144) (C := RX6) (ref := "PivotBeatsModel") (T := TX6) (N := 19) (ty := .int) (w' := MW E q (up (up (up (up (up (up σ 5 (5 * (σ 4 0)) a) 5 ((5 * (σ 4 0)) + 1) v) 5 ((5 * (σ 4 0)) + 2) b) 5 ((5 * (σ 4 0)) + 3) w) 5 ((5 * (σ 4 0)) + 4) ear) 4 0 ((σ 4 0) + 1))) X dX6_tie_141 rfl hin6 tyX6 tyX6_ok nmX6 0 rfl rfl 4 (by decide) (by decide +kernel) rfl rfl (by decide +kernel) rfl rfl (Nat.le_of_ble_eq_true rfl) rfl ?_
                refine z_aload_n (pc' := 145) X dX6_tie_144 rfl 0 rfl rfl ?_
                refine z_get (pc' := 148) (C := RX6) (ref := "PivotBeatsModel") (T := TX6) (N := 19) (v := .int (jI ((σ 4 0) + 1))) X dX6_tie_145 rfl hin6 0 rfl rfl 4 (by decide) (by decide +kernel) rfl rfl ?_
                refine z_iconst (pc' := 149) X dX6_tie_148 rfl ?_
                refine z_isub (pc' := 150) X dX6_tie_149 rfl ?_
                exact z_iret (post := (fun (rv : Int) (uu : St) => ((¬ ((0 ≤ a ∧ a < σ 0 0) ∧ (0 ≤ b ∧ b < σ 0 0) ∧ ¬ a = b ∧ (0 ≤ v ∧ v ≤ 19) ∧ (0 ≤ w ∧ w ≤ 19)) ∧ rv = -1 ∧ uu = σ) ∨ (((0 ≤ a ∧ a < σ 0 0) ∧ (0 ≤ b ∧ b < σ 0 0) ∧ ¬ a = b ∧ (0 ≤ v ∧ v ≤ 19) ∧ (0 ≤ w ∧ w ≤ 19)) ∧ ¬ (0 ≤ ear ∧ ear ≤ 9) ∧ rv = -2 ∧ uu = σ) ∨ (((0 ≤ a ∧ a < σ 0 0) ∧ (0 ≤ b ∧ b < σ 0 0) ∧ ¬ a = b ∧ (0 ≤ v ∧ v ≤ 19) ∧ (0 ≤ w ∧ w ≤ 19)) ∧ (0 ≤ ear ∧ ear ≤ 9) ∧ σ 4 0 = 12 ∧ rv = -4 ∧ uu = σ) ∨ (((0 ≤ a ∧ a < σ 0 0) ∧ (0 ≤ b ∧ b < σ 0 0) ∧ ¬ a = b ∧ (0 ≤ v ∧ v ≤ 19) ∧ (0 ≤ w ∧ w ≤ 19)) ∧ (0 ≤ ear ∧ ear ≤ 9) ∧ ¬ σ 4 0 = 12 ∧ rv = σ 4 0 ∧ uu = up (up (up (up (up (up σ 5 (5 * σ 4 0) a) 5 (5 * σ 4 0 + 1) v) 5 (5 * σ 4 0 + 2) b) 5 (5 * σ 4 0 + 3) w) 5 (5 * σ 4 0 + 4) ear) 4 0 (σ 4 0 + 1))))) X dX6_tie_150 hret (up (up (up (up (up (up σ 5 (5 * (σ 4 0)) a) 5 ((5 * (σ 4 0)) + 1) v) 5 ((5 * (σ 4 0)) + 2) b) 5 ((5 * (σ 4 0)) + 3) w) 5 ((5 * (σ 4 0)) + 4) ear) 4 0 ((σ 4 0) + 1)) (Or.inr (Or.inr (Or.inr ⟨by omega, by omega, by omega, by omega, rfl⟩)))
              · refine z_bipush (pc' := 63) X dX6_tie_61 rfl rfl ?_
                exact z_iret (post := (fun (rv : Int) (uu : St) => ((¬ ((0 ≤ a ∧ a < σ 0 0) ∧ (0 ≤ b ∧ b < σ 0 0) ∧ ¬ a = b ∧ (0 ≤ v ∧ v ≤ 19) ∧ (0 ≤ w ∧ w ≤ 19)) ∧ rv = -1 ∧ uu = σ) ∨ (((0 ≤ a ∧ a < σ 0 0) ∧ (0 ≤ b ∧ b < σ 0 0) ∧ ¬ a = b ∧ (0 ≤ v ∧ v ≤ 19) ∧ (0 ≤ w ∧ w ≤ 19)) ∧ ¬ (0 ≤ ear ∧ ear ≤ 9) ∧ rv = -2 ∧ uu = σ) ∨ (((0 ≤ a ∧ a < σ 0 0) ∧ (0 ≤ b ∧ b < σ 0 0) ∧ ¬ a = b ∧ (0 ≤ v ∧ v ≤ 19) ∧ (0 ≤ w ∧ w ≤ 19)) ∧ (0 ≤ ear ∧ ear ≤ 9) ∧ σ 4 0 = 12 ∧ rv = -4 ∧ uu = σ) ∨ (((0 ≤ a ∧ a < σ 0 0) ∧ (0 ≤ b ∧ b < σ 0 0) ∧ ¬ a = b ∧ (0 ≤ v ∧ v ≤ 19) ∧ (0 ≤ w ∧ w ≤ 19)) ∧ (0 ≤ ear ∧ ear ≤ 9) ∧ ¬ σ 4 0 = 12 ∧ rv = σ 4 0 ∧ uu = up (up (up (up (up (up σ 5 (5 * σ 4 0) a) 5 (5 * σ 4 0 + 1) v) 5 (5 * σ 4 0 + 2) b) 5 (5 * σ 4 0 + 3) w) 5 (5 * σ 4 0 + 4) ear) 4 0 (σ 4 0 + 1))))) X dX6_tie_63 hret σ (Or.inr (Or.inr (Or.inl ⟨by omega, by omega, by omega, rfl, rfl⟩)))
            · refine z_if_ne (tgt := 52) (pc' := 49) X dX6_tie_46 (by decide) rfl (by omega) (fun h => absurd h (by decide)) (fun _ => ?_)
              refine z_bipush (pc' := 51) X dX6_tie_49 rfl rfl ?_
              exact z_iret (post := (fun (rv : Int) (uu : St) => ((¬ ((0 ≤ a ∧ a < σ 0 0) ∧ (0 ≤ b ∧ b < σ 0 0) ∧ ¬ a = b ∧ (0 ≤ v ∧ v ≤ 19) ∧ (0 ≤ w ∧ w ≤ 19)) ∧ rv = -1 ∧ uu = σ) ∨ (((0 ≤ a ∧ a < σ 0 0) ∧ (0 ≤ b ∧ b < σ 0 0) ∧ ¬ a = b ∧ (0 ≤ v ∧ v ≤ 19) ∧ (0 ≤ w ∧ w ≤ 19)) ∧ ¬ (0 ≤ ear ∧ ear ≤ 9) ∧ rv = -2 ∧ uu = σ) ∨ (((0 ≤ a ∧ a < σ 0 0) ∧ (0 ≤ b ∧ b < σ 0 0) ∧ ¬ a = b ∧ (0 ≤ v ∧ v ≤ 19) ∧ (0 ≤ w ∧ w ≤ 19)) ∧ (0 ≤ ear ∧ ear ≤ 9) ∧ σ 4 0 = 12 ∧ rv = -4 ∧ uu = σ) ∨ (((0 ≤ a ∧ a < σ 0 0) ∧ (0 ≤ b ∧ b < σ 0 0) ∧ ¬ a = b ∧ (0 ≤ v ∧ v ≤ 19) ∧ (0 ≤ w ∧ w ≤ 19)) ∧ (0 ≤ ear ∧ ear ≤ 9) ∧ ¬ σ 4 0 = 12 ∧ rv = σ 4 0 ∧ uu = up (up (up (up (up (up σ 5 (5 * σ 4 0) a) 5 (5 * σ 4 0 + 1) v) 5 (5 * σ 4 0 + 2) b) 5 (5 * σ 4 0 + 3) w) 5 (5 * σ 4 0 + 4) ear) 4 0 (σ 4 0 + 1))))) X dX6_tie_51 hret σ (Or.inr (Or.inl ⟨by omega, by omega, rfl, rfl⟩))
          · refine z_if_ne (tgt := 38) (pc' := 36) X dX6_tie_33 (by decide) rfl (by omega) (fun h => absurd h (by decide)) (fun _ => ?_)
            refine z_iconst (pc' := 37) X dX6_tie_36 rfl ?_
            exact z_iret (post := (fun (rv : Int) (uu : St) => ((¬ ((0 ≤ a ∧ a < σ 0 0) ∧ (0 ≤ b ∧ b < σ 0 0) ∧ ¬ a = b ∧ (0 ≤ v ∧ v ≤ 19) ∧ (0 ≤ w ∧ w ≤ 19)) ∧ rv = -1 ∧ uu = σ) ∨ (((0 ≤ a ∧ a < σ 0 0) ∧ (0 ≤ b ∧ b < σ 0 0) ∧ ¬ a = b ∧ (0 ≤ v ∧ v ≤ 19) ∧ (0 ≤ w ∧ w ≤ 19)) ∧ ¬ (0 ≤ ear ∧ ear ≤ 9) ∧ rv = -2 ∧ uu = σ) ∨ (((0 ≤ a ∧ a < σ 0 0) ∧ (0 ≤ b ∧ b < σ 0 0) ∧ ¬ a = b ∧ (0 ≤ v ∧ v ≤ 19) ∧ (0 ≤ w ∧ w ≤ 19)) ∧ (0 ≤ ear ∧ ear ≤ 9) ∧ σ 4 0 = 12 ∧ rv = -4 ∧ uu = σ) ∨ (((0 ≤ a ∧ a < σ 0 0) ∧ (0 ≤ b ∧ b < σ 0 0) ∧ ¬ a = b ∧ (0 ≤ v ∧ v ≤ 19) ∧ (0 ≤ w ∧ w ≤ 19)) ∧ (0 ≤ ear ∧ ear ≤ 9) ∧ ¬ σ 4 0 = 12 ∧ rv = σ 4 0 ∧ uu = up (up (up (up (up (up σ 5 (5 * σ 4 0) a) 5 (5 * σ 4 0 + 1) v) 5 (5 * σ 4 0 + 2) b) 5 (5 * σ 4 0 + 3) w) 5 (5 * σ 4 0 + 4) ear) 4 0 (σ 4 0 + 1))))) X dX6_tie_37 hret σ (Or.inl ⟨by omega, rfl, rfl⟩)
        · refine z_if_eq (tgt := 36) (pc' := 28) X dX6_tie_25 (by decide) rfl (by omega) (fun _ => ?_) (fun h => absurd h (by decide))
          refine z_iconst (pc' := 37) X dX6_tie_36 rfl ?_
          exact z_iret (post := (fun (rv : Int) (uu : St) => ((¬ ((0 ≤ a ∧ a < σ 0 0) ∧ (0 ≤ b ∧ b < σ 0 0) ∧ ¬ a = b ∧ (0 ≤ v ∧ v ≤ 19) ∧ (0 ≤ w ∧ w ≤ 19)) ∧ rv = -1 ∧ uu = σ) ∨ (((0 ≤ a ∧ a < σ 0 0) ∧ (0 ≤ b ∧ b < σ 0 0) ∧ ¬ a = b ∧ (0 ≤ v ∧ v ≤ 19) ∧ (0 ≤ w ∧ w ≤ 19)) ∧ ¬ (0 ≤ ear ∧ ear ≤ 9) ∧ rv = -2 ∧ uu = σ) ∨ (((0 ≤ a ∧ a < σ 0 0) ∧ (0 ≤ b ∧ b < σ 0 0) ∧ ¬ a = b ∧ (0 ≤ v ∧ v ≤ 19) ∧ (0 ≤ w ∧ w ≤ 19)) ∧ (0 ≤ ear ∧ ear ≤ 9) ∧ σ 4 0 = 12 ∧ rv = -4 ∧ uu = σ) ∨ (((0 ≤ a ∧ a < σ 0 0) ∧ (0 ≤ b ∧ b < σ 0 0) ∧ ¬ a = b ∧ (0 ≤ v ∧ v ≤ 19) ∧ (0 ≤ w ∧ w ≤ 19)) ∧ (0 ≤ ear ∧ ear ≤ 9) ∧ ¬ σ 4 0 = 12 ∧ rv = σ 4 0 ∧ uu = up (up (up (up (up (up σ 5 (5 * σ 4 0) a) 5 (5 * σ 4 0 + 1) v) 5 (5 * σ 4 0 + 2) b) 5 (5 * σ 4 0 + 3) w) 5 (5 * σ 4 0 + 4) ear) 4 0 (σ 4 0 + 1))))) X dX6_tie_37 hret σ (Or.inl ⟨by omega, rfl, rfl⟩)
    · refine z_if_eq (tgt := 36) (pc' := 16) X dX6_tie_13 (by decide) rfl (by omega) (fun _ => ?_) (fun h => absurd h (by decide))
      refine z_iconst (pc' := 37) X dX6_tie_36 rfl ?_
      exact z_iret (post := (fun (rv : Int) (uu : St) => ((¬ ((0 ≤ a ∧ a < σ 0 0) ∧ (0 ≤ b ∧ b < σ 0 0) ∧ ¬ a = b ∧ (0 ≤ v ∧ v ≤ 19) ∧ (0 ≤ w ∧ w ≤ 19)) ∧ rv = -1 ∧ uu = σ) ∨ (((0 ≤ a ∧ a < σ 0 0) ∧ (0 ≤ b ∧ b < σ 0 0) ∧ ¬ a = b ∧ (0 ≤ v ∧ v ≤ 19) ∧ (0 ≤ w ∧ w ≤ 19)) ∧ ¬ (0 ≤ ear ∧ ear ≤ 9) ∧ rv = -2 ∧ uu = σ) ∨ (((0 ≤ a ∧ a < σ 0 0) ∧ (0 ≤ b ∧ b < σ 0 0) ∧ ¬ a = b ∧ (0 ≤ v ∧ v ≤ 19) ∧ (0 ≤ w ∧ w ≤ 19)) ∧ (0 ≤ ear ∧ ear ≤ 9) ∧ σ 4 0 = 12 ∧ rv = -4 ∧ uu = σ) ∨ (((0 ≤ a ∧ a < σ 0 0) ∧ (0 ≤ b ∧ b < σ 0 0) ∧ ¬ a = b ∧ (0 ≤ v ∧ v ≤ 19) ∧ (0 ≤ w ∧ w ≤ 19)) ∧ (0 ≤ ear ∧ ear ≤ 9) ∧ ¬ σ 4 0 = 12 ∧ rv = σ 4 0 ∧ uu = up (up (up (up (up (up σ 5 (5 * σ 4 0) a) 5 (5 * σ 4 0 + 1) v) 5 (5 * σ 4 0 + 2) b) 5 (5 * σ 4 0 + 3) w) 5 (5 * σ 4 0 + 4) ear) 4 0 (σ 4 0 + 1))))) X dX6_tie_37 hret σ (Or.inl ⟨by omega, rfl, rfl⟩)
  · refine z_if_eq (tgt := 36) (pc' := 8) X dX6_tie_5 (by decide) rfl (by omega) (fun _ => ?_) (fun h => absurd h (by decide))
    refine z_iconst (pc' := 37) X dX6_tie_36 rfl ?_
    exact z_iret (post := (fun (rv : Int) (uu : St) => ((¬ ((0 ≤ a ∧ a < σ 0 0) ∧ (0 ≤ b ∧ b < σ 0 0) ∧ ¬ a = b ∧ (0 ≤ v ∧ v ≤ 19) ∧ (0 ≤ w ∧ w ≤ 19)) ∧ rv = -1 ∧ uu = σ) ∨ (((0 ≤ a ∧ a < σ 0 0) ∧ (0 ≤ b ∧ b < σ 0 0) ∧ ¬ a = b ∧ (0 ≤ v ∧ v ≤ 19) ∧ (0 ≤ w ∧ w ≤ 19)) ∧ ¬ (0 ≤ ear ∧ ear ≤ 9) ∧ rv = -2 ∧ uu = σ) ∨ (((0 ≤ a ∧ a < σ 0 0) ∧ (0 ≤ b ∧ b < σ 0 0) ∧ ¬ a = b ∧ (0 ≤ v ∧ v ≤ 19) ∧ (0 ≤ w ∧ w ≤ 19)) ∧ (0 ≤ ear ∧ ear ≤ 9) ∧ σ 4 0 = 12 ∧ rv = -4 ∧ uu = σ) ∨ (((0 ≤ a ∧ a < σ 0 0) ∧ (0 ≤ b ∧ b < σ 0 0) ∧ ¬ a = b ∧ (0 ≤ v ∧ v ≤ 19) ∧ (0 ≤ w ∧ w ≤ 19)) ∧ (0 ≤ ear ∧ ear ≤ 9) ∧ ¬ σ 4 0 = 12 ∧ rv = σ 4 0 ∧ uu = up (up (up (up (up (up σ 5 (5 * σ 4 0) a) 5 (5 * σ 4 0 + 1) v) 5 (5 * σ 4 0 + 2) b) 5 (5 * σ 4 0 + 3) w) 5 (5 * σ 4 0 + 4) ear) 4 0 (σ 4 0 + 1))))) X dX6_tie_37 hret σ (Or.inl ⟨by omega, rfl, rfl⟩)
set_option maxHeartbeats 4000000 in
set_option maxRecDepth 100000 in
theorem kX6_ear (l : Launch) (D : va_G) (E : Nat → Nat) (q : Nat → Nat) (σ : St) (k v : Int) (hwf : WfM σ) (hr : (-2147483648 ≤ k ∧ k < 2147483648) ∧ (-2147483648 ≤ v ∧ v < 2147483648)) : CtI l D E yX6_ear wsX6_ear ({ frames := 2, cells := 0, slots := 0, locals := 43 } : Room) [.ref (q 0), .int (jI k), .int (jI v)] (MW E q σ) (MW E q) (fun (rv : Int) (uu : St) => ((¬ (0 ≤ k ∧ k < σ 4 0) ∧ rv = -1 ∧ uu = σ) ∨ ((0 ≤ k ∧ k < σ 4 0) ∧ ¬ (0 ≤ v ∧ v ≤ 9) ∧ rv = -2 ∧ uu = σ) ∨ ((0 ≤ k ∧ k < σ 4 0) ∧ (0 ≤ v ∧ v ≤ 9) ∧ rv = σ 5 (5 * k + 4) ∧ uu = up σ 5 (5 * k + 4) v))) := by
  refine mk_I (cc := cX6_ear) (maxL := 4) (ret := some .int) (by decide) rfl (Nat.le_of_ble_eq_true rfl) ?_
  intro p e s m args below meth c A X hret
  have hin6 : ∀ x ∈ u_ws RX6 TX6 19, x ∈ wsX6_ear := fun _ h => List.mem_cons_of_mem _ (List.mem_append_right _ h)
  refine z_lv (lv' := [(0, .ref (q 0)), (1, .int (jI k)), (2, .int (jI v))]) [0, 1, 2] rfl ?_
  obtain ⟨n0, n3, n4, n13⟩ := hwf.n
  refine z_aload_n (pc' := 1) X dX6_ear_0 rfl 0 rfl rfl ?_
  refine z_iload_n (pc' := 2) X dX6_ear_1 rfl 1 rfl rfl ?_
  refine z_callVI (pc' := 5) (S := St) (As := [.int (jI k)]) (rest := []) X dX6_ear_2 rfl (kX6_isTie l D E q σ k  (hwf) (by omega)) (cwV 1 X.1.2.2.2.2 gX6_ear_X6_isTie rfl rfl rfl (by decide +kernel) ⟨Nat.le_of_ble_eq_true rfl, Nat.le_of_ble_eq_true rfl⟩) 0 rfl rfl rfl rfl (Nat.le_of_ble_eq_true rfl) (fun r2 u2 hp2 => ?_)
  obtain ⟨rfl, hp2⟩ := hp2
  rcases hp2 with ⟨rfl, hp2⟩ | ⟨rfl, hp2⟩
  · refine z_if_ne (tgt := 10) (pc' := 8) X dX6_ear_5 (by decide) rfl (by omega) (fun _ => ?_) (fun h => absurd h (by decide))
    refine z_iload_n (pc' := 11) X dX6_ear_10 rfl 2 rfl rfl ?_
    refine z_iconst (pc' := 12) X dX6_ear_11 rfl ?_
    refine z_bipush (pc' := 14) X dX6_ear_12 rfl rfl ?_
    refine z_callPI (pc' := 17) (S := Unit) (As := [.int (jI v), .int (jI 0), .int (jI 9)]) (rest := []) X dX6_ear_14 rfl (kX6_isIn l D E v 0 9  (by omega)) (va_cwS 3 X.1.2.2.2.2 gX6_ear_X6_isIn rfl rfl rfl (by decide +kernel) ⟨Nat.le_of_ble_eq_true rfl, Nat.le_of_ble_eq_true rfl⟩) rfl rfl (Nat.le_of_ble_eq_true rfl) (fun r14 u14 hp14 => ?_)
    skip
    rcases hp14 with ⟨rfl, hp14⟩ | ⟨rfl, hp14⟩
    · refine z_if_ne (tgt := 23) (pc' := 20) X dX6_ear_17 (by decide) rfl (by omega) (fun _ => ?_) (fun h => absurd h (by decide))
      refine z_aload_n (pc' := 24) X dX6_ear_23 rfl 0 rfl rfl ?_
      refine z_get (pc' := 27) (C := RX6) (ref := "PivotBeatsModel") (T := TX6) (N := 19) (v := .ref (q 5)) X dX6_ear_24 rfl hin6 0 rfl rfl 5 (by decide) (by decide +kernel) rfl rfl ?_
      refine z_iconst (pc' := 28) X dX6_ear_27 rfl ?_
      refine z_iload_n (pc' := 29) X dX6_ear_28 rfl 1 rfl rfl ?_
      refine z_imul (pc' := 30) X dX6_ear_29 rfl ?_
      refine z_iconst (pc' := 31) X dX6_ear_30 rfl ?_
      refine z_iadd (pc' := 32) X dX6_ear_31 rfl ?_
      refine z_iald (pc' := 33) (f := σ 5) (n := 60) X dX6_ear_32 rfl 3 rfl (by decide) (by omega) ?_
      refine z_istore_n (pc' := 34) (lv' := [(3, .int (jI (σ 5 ((5 * k) + 4)))), (0, .ref (q 0)), (1, .int (jI k)), (2, .int (jI v))]) X dX6_ear_33 rfl rfl (by decide) rfl ?_
      refine z_aload_n (pc' := 35) X dX6_ear_34 rfl 1 rfl rfl ?_
      refine z_get (pc' := 38) (C := RX6) (ref := "PivotBeatsModel") (T := TX6) (N := 19) (v := .ref (q 5)) X dX6_ear_35 rfl hin6 0 rfl rfl 5 (by decide) (by decide +kernel) rfl rfl ?_
      refine z_iconst (pc' := 39) X dX6_ear_38 rfl ?_
      refine z_iload_n (pc' := 40) X dX6_ear_39 rfl 2 rfl rfl ?_
      refine z_imul (pc' := 41) X dX6_ear_40 rfl ?_
      refine z_iconst (pc' := 42) X dX6_ear_41 rfl ?_
      refine z_iadd (pc' := 43) X dX6_ear_42 rfl ?_
      refine z_iload_n (pc' := 44) X dX6_ear_43 rfl 3 rfl rfl ?_
      refine z_iast (pc' := 45) (f := σ 5) (n := 60) (w' := MW E q (up σ 5 ((5 * k) + 4) v)) X dX6_ear_44 rfl 3 rfl (by decide) (by omega) rfl ?_
      refine z_iload_n (pc' := 46) X dX6_ear_45 rfl 0 rfl rfl ?_
      exact z_iret (post := (fun (rv : Int) (uu : St) => ((¬ (0 ≤ k ∧ k < σ 4 0) ∧ rv = -1 ∧ uu = σ) ∨ ((0 ≤ k ∧ k < σ 4 0) ∧ ¬ (0 ≤ v ∧ v ≤ 9) ∧ rv = -2 ∧ uu = σ) ∨ ((0 ≤ k ∧ k < σ 4 0) ∧ (0 ≤ v ∧ v ≤ 9) ∧ rv = σ 5 (5 * k + 4) ∧ uu = up σ 5 (5 * k + 4) v)))) X dX6_ear_46 hret (up σ 5 ((5 * k) + 4) v) (by first | exact Or.inl ⟨by omega, rfl, rfl⟩ | exact Or.inr (Or.inl ⟨by omega, by omega, rfl, rfl⟩) | exact Or.inr (Or.inr ⟨by omega, by omega, rfl, rfl⟩))
    · refine z_if_ne (tgt := 23) (pc' := 20) X dX6_ear_17 (by decide) rfl (by omega) (fun h => absurd h (by decide)) (fun _ => ?_)
      refine z_bipush (pc' := 22) X dX6_ear_20 rfl rfl ?_
      exact z_iret (post := (fun (rv : Int) (uu : St) => ((¬ (0 ≤ k ∧ k < σ 4 0) ∧ rv = -1 ∧ uu = σ) ∨ ((0 ≤ k ∧ k < σ 4 0) ∧ ¬ (0 ≤ v ∧ v ≤ 9) ∧ rv = -2 ∧ uu = σ) ∨ ((0 ≤ k ∧ k < σ 4 0) ∧ (0 ≤ v ∧ v ≤ 9) ∧ rv = σ 5 (5 * k + 4) ∧ uu = up σ 5 (5 * k + 4) v)))) X dX6_ear_22 hret σ (by first | exact Or.inl ⟨by omega, rfl, rfl⟩ | exact Or.inr (Or.inl ⟨by omega, by omega, rfl, rfl⟩) | exact Or.inr (Or.inr ⟨by omega, by omega, rfl, rfl⟩))
  · refine z_if_ne (tgt := 10) (pc' := 8) X dX6_ear_5 (by decide) rfl (by omega) (fun h => absurd h (by decide)) (fun _ => ?_)
    refine z_iconst (pc' := 9) X dX6_ear_8 rfl ?_
    exact z_iret (post := (fun (rv : Int) (uu : St) => ((¬ (0 ≤ k ∧ k < σ 4 0) ∧ rv = -1 ∧ uu = σ) ∨ ((0 ≤ k ∧ k < σ 4 0) ∧ ¬ (0 ≤ v ∧ v ≤ 9) ∧ rv = -2 ∧ uu = σ) ∨ ((0 ≤ k ∧ k < σ 4 0) ∧ (0 ≤ v ∧ v ≤ 9) ∧ rv = σ 5 (5 * k + 4) ∧ uu = up σ 5 (5 * k + 4) v)))) X dX6_ear_9 hret σ (by first | exact Or.inl ⟨by omega, rfl, rfl⟩ | exact Or.inr (Or.inl ⟨by omega, by omega, rfl, rfl⟩) | exact Or.inr (Or.inr ⟨by omega, by omega, rfl, rfl⟩))
set_option maxHeartbeats 4000000 in
set_option maxRecDepth 100000 in
theorem kX6_untie (l : Launch) (D : va_G) (E : Nat → Nat) (q : Nat → Nat) (σ : St) (k : Int) (hwf : WfM σ) (hr : (-2147483648 ≤ k ∧ k < 2147483648)) : CtI l D E yX6_untie wsX6_untie ({ frames := 2, cells := 0, slots := 0, locals := 43 } : Room) [.ref (q 0), .int (jI k)] (MW E q σ) (MW E q) (fun (rv : Int) (uu : St) => ((¬ (0 ≤ k ∧ k < σ 4 0) ∧ rv = -1 ∧ uu = σ) ∨ ((0 ≤ k ∧ k < σ 4 0) ∧ rv = σ 4 0 - 1 ∧ ∃ u1 : St, uu = up u1 4 0 (σ 4 0 - 1) ∧ (∀ F, F ≠ 5 → u1 F = σ F) ∧ ∀ x, u1 5 x = if 5 * k ≤ x ∧ x < 5 * (σ 4 0 - 1) then σ 5 (x + 5) else σ 5 x))) := by
  refine mk_I (cc := cX6_untie) (maxL := 3) (ret := some .int) (by decide) rfl (Nat.le_of_ble_eq_true rfl) ?_
  intro p e s m args below meth c A X hret
  have hin6 : ∀ x ∈ u_ws RX6 TX6 19, x ∈ wsX6_untie := fun _ h => List.mem_cons_of_mem _ (List.mem_append_right _ h)
  refine z_lv (lv' := [(0, .ref (q 0)), (1, .int (jI k))]) [0, 1] rfl ?_
  obtain ⟨n0, n3, n4, n13⟩ := hwf.n
  refine z_aload_n (pc' := 1) X dX6_untie_0 rfl 0 rfl rfl ?_
  refine z_iload_n (pc' := 2) X dX6_untie_1 rfl 1 rfl rfl ?_
  refine z_callVI (pc' := 5) (S := St) (As := [.int (jI k)]) (rest := []) X dX6_untie_2 rfl (kX6_isTie l D E q σ k  (hwf) (by omega)) (cwV 1 X.1.2.2.2.2 gX6_untie_X6_isTie rfl rfl rfl (by decide +kernel) ⟨Nat.le_of_ble_eq_true rfl, Nat.le_of_ble_eq_true rfl⟩) 0 rfl rfl rfl rfl (Nat.le_of_ble_eq_true rfl) (fun r2 u2 hp2 => ?_)
  obtain ⟨rfl, hp2⟩ := hp2
  rcases hp2 with ⟨rfl, hp2⟩ | ⟨rfl, hp2⟩
  · refine z_if_ne (tgt := 10) (pc' := 8) X dX6_untie_5 (by decide) rfl (by omega) (fun _ => ?_) (fun h => absurd h (by decide))
    refine z_iconst (pc' := 11) X dX6_untie_10 rfl ?_
    refine z_iload_n (pc' := 12) X dX6_untie_11 rfl 1 rfl rfl ?_
    refine z_imul (pc' := 13) X dX6_untie_12 rfl ?_
    refine z_istore_n (pc' := 14) (lv' := [(2, .int (jI (5 * k))), (0, .ref (q 0)), (1, .int (jI k))]) X dX6_untie_13 rfl rfl (by decide) rfl ?_
    have lp14 : ∀ (nF : Nat) (x : Int) (u1 : St) , ((5 * k ≤ x ∧ x ≤ 5 * (σ 4 0 - 1)) ∧ (∀ F, F ≠ 5 → u1 F = σ F) ∧ ∀ y, u1 5 y = if 5 * k ≤ y ∧ y < x then σ 5 (y + 5) else σ 5 y) → ((60 - x).toNat : Nat) < nF → J p l e (headSpec wsX6_untie ({ frames := 2, cells := 0, slots := 0, locals := 43 } : Room)).room s m args below meth c D A 3 (MQ below (va_Qi (fun r u => ∃ x, r = jI x ∧ (fun (rv : Int) (uu : St) => ((¬ (0 ≤ k ∧ k < σ 4 0) ∧ rv = -1 ∧ uu = σ) ∨ ((0 ≤ k ∧ k < σ 4 0) ∧ rv = σ 4 0 - 1 ∧ ∃ u1 : St, uu = up u1 4 0 (σ 4 0 - 1) ∧ (∀ F, F ≠ 5 → u1 F = σ F) ∧ ∀ x, u1 5 x = if 5 * k ≤ x ∧ x < 5 * (σ 4 0 - 1) then σ 5 (x + 5) else σ 5 x))) x u) (Bw D (MW E q) A) A) args s 0 0 A) 14 [(2, .int (jI x)), (0, .ref (q 0)), (1, .int (jI k))] [] (MW E q u1) := by
      intro nF
      induction nF with
      | zero => intro x u1  hI hn; exact absurd hn (Nat.not_lt_zero _)
      | succ nF ih14 =>
        intro x u1  hI hn
        obtain ⟨h1, h2, h3⟩ := hI
        have e4 : u1 4 0 = σ 4 0 := by rw [h2 4 (by decide)]
        refine z_iload_n (pc' := 15) X dX6_untie_14 rfl 0 rfl rfl ?_
        refine z_iconst (pc' := 16) X dX6_untie_15 rfl ?_
        refine z_aload_n (pc' := 17) X dX6_untie_16 rfl 1 rfl rfl ?_
        refine z_get (pc' := 20) (C := RX6) (ref := "PivotBeatsModel") (T := TX6) (N := 19) (v := .int (jI (u1 4 0))) X dX6_untie_17 rfl hin6 0 rfl rfl 4 (by decide) (by decide +kernel) rfl rfl ?_
        refine z_iconst (pc' := 21) X dX6_untie_20 rfl ?_
        refine z_isub (pc' := 22) X dX6_untie_21 rfl ?_
        refine z_imul (pc' := 23) X dX6_untie_22 rfl ?_
        refine z_icmp_ge (tgt := 46) (pc' := 26) X dX6_untie_23 (by decide) rfl (by omega) (fun h23 => ?_) (fun h23 => ?_)
        · refine z_aload_n (pc' := 47) X dX6_untie_46 rfl 1 rfl rfl ?_
          refine z_dup (pc' := 48) X dX6_untie_47 rfl rfl ?_
          refine z_get (pc' := 51) (C := RX6) (ref := "PivotBeatsModel") (T := TX6) (N := 19) (v := .int (jI (u1 4 0))) X dX6_untie_48 rfl hin6 0 rfl rfl 4 (by decide) (by decide +kernel) rfl rfl ?_
          refine z_iconst (pc' := 52) X dX6_untie_51 rfl ?_
          refine z_isub (pc' := 53) X dX6_untie_52 rfl ?_
          refine z_put (pc' := 56) (C := RX6) (ref := "PivotBeatsModel") (T := TX6) (N := 19) (ty := .int) (w' := MW E q (up u1 4 0 ((u1 4 0) - 1))) X dX6_untie_53 rfl hin6 tyX6 tyX6_ok nmX6 0 rfl rfl 4 (by decide) (by decide +kernel) rfl rfl (by decide +kernel) rfl rfl (Nat.le_of_ble_eq_true rfl) rfl ?_
          refine z_aload_n (pc' := 57) X dX6_untie_56 rfl 1 rfl rfl ?_
          refine z_get (pc' := 60) (C := RX6) (ref := "PivotBeatsModel") (T := TX6) (N := 19) (v := .int (jI ((u1 4 0) - 1))) X dX6_untie_57 rfl hin6 0 rfl rfl 4 (by decide) (by decide +kernel) rfl rfl ?_
          exact z_iret (post := (fun (rv : Int) (uu : St) => ((¬ (0 ≤ k ∧ k < σ 4 0) ∧ rv = -1 ∧ uu = σ) ∨ ((0 ≤ k ∧ k < σ 4 0) ∧ rv = σ 4 0 - 1 ∧ ∃ u1 : St, uu = up u1 4 0 (σ 4 0 - 1) ∧ (∀ F, F ≠ 5 → u1 F = σ F) ∧ ∀ x, u1 5 x = if 5 * k ≤ x ∧ x < 5 * (σ 4 0 - 1) then σ 5 (x + 5) else σ 5 x)))) X dX6_untie_60 hret (up u1 4 0 ((u1 4 0) - 1)) (Or.inr ⟨by omega, by omega, u1, by rw [e4], h2, fun y => by rw [h3 y, show x = 5 * (σ 4 0 - 1) by omega]⟩)
        · refine z_aload_n (pc' := 27) X dX6_untie_26 rfl 1 rfl rfl ?_
          refine z_get (pc' := 30) (C := RX6) (ref := "PivotBeatsModel") (T := TX6) (N := 19) (v := .ref (q 5)) X dX6_untie_27 rfl hin6 0 rfl rfl 5 (by decide) (by decide +kernel) rfl rfl ?_
          refine z_iload_n (pc' := 31) X dX6_untie_30 rfl 0 rfl rfl ?_
          refine z_aload_n (pc' := 32) X dX6_untie_31 rfl 1 rfl rfl ?_
          refine z_get (pc' := 35) (C := RX6) (ref := "PivotBeatsModel") (T := TX6) (N := 19) (v := .ref (q 5)) X dX6_untie_32 rfl hin6 0 rfl rfl 5 (by decide) (by decide +kernel) rfl rfl ?_
          refine z_iload_n (pc' := 36) X dX6_untie_35 rfl 0 rfl rfl ?_
          refine z_iconst (pc' := 37) X dX6_untie_36 rfl ?_
          refine z_iadd (pc' := 38) X dX6_untie_37 rfl ?_
          refine z_iald (pc' := 39) (f := u1 5) (n := 60) X dX6_untie_38 rfl 3 rfl (by decide) (by omega) ?_
          refine z_iast (pc' := 40) (f := u1 5) (n := 60) (w' := MW E q (up u1 5 x (u1 5 (x + 5)))) X dX6_untie_39 rfl 3 rfl (by decide) (by omega) rfl ?_
          refine z_iinc (pc' := 43) (lv' := [(2, .int (jI (x + 1))), (0, .ref (q 0)), (1, .int (jI k))]) X dX6_untie_40 rfl 0 rfl (by decide) rfl ?_
          refine z_goto (tgt := 14) X dX6_untie_43 (by decide) ?_
          exact ih14 (x + 1) (up u1 5 x (u1 5 (x + 5)))  (⟨by omega, fun F hF => by funext i; rw [up_f _ _ _ _ hF, h2 F hF], fun y => unt_step h1.1 h3 y⟩) (by omega)
    exact lp14 _ (5 * k) σ  (⟨by omega, fun _ _ => rfl, fun y => by rw [if_neg (by omega)]⟩) (Nat.lt_succ_self _)
  · refine z_if_ne (tgt := 10) (pc' := 8) X dX6_untie_5 (by decide) rfl (by omega) (fun h => absurd h (by decide)) (fun _ => ?_)
    refine z_iconst (pc' := 9) X dX6_untie_8 rfl ?_
    exact z_iret (post := (fun (rv : Int) (uu : St) => ((¬ (0 ≤ k ∧ k < σ 4 0) ∧ rv = -1 ∧ uu = σ) ∨ ((0 ≤ k ∧ k < σ 4 0) ∧ rv = σ 4 0 - 1 ∧ ∃ u1 : St, uu = up u1 4 0 (σ 4 0 - 1) ∧ (∀ F, F ≠ 5 → u1 F = σ F) ∧ ∀ x, u1 5 x = if 5 * k ≤ x ∧ x < 5 * (σ 4 0 - 1) then σ 5 (x + 5) else σ 5 x)))) X dX6_untie_9 hret σ (Or.inl ⟨by omega, rfl, rfl⟩)
set_option maxHeartbeats 4000000 in
set_option maxRecDepth 100000 in
theorem kX6_clear (l : Launch) (D : va_G) (E : Nat → Nat) (q : Nat → Nat) (σ : St) (hwf : WfM σ) : CtI l D E yX6_clear wsX6_clear ({ frames := 0, cells := 0, slots := 0, locals := 0 } : Room) [.ref (q 0)] (MW E q σ) (MW E q) (fun (rv : Int) (uu : St) => (rv = σ 4 0 ∧ uu = up (up σ 4 0 0) 0 0 0)) := by
  refine mk_I (cc := cX6_clear) (maxL := 2) (ret := some .int) (by decide) rfl (Nat.le_of_ble_eq_true rfl) ?_
  intro p e s m args below meth c A X hret
  have hin6 : ∀ x ∈ u_ws RX6 TX6 19, x ∈ wsX6_clear := fun _ h => List.mem_cons_of_mem _ (List.mem_append_right _ h)
  refine z_lv (lv' := [(0, .ref (q 0))]) [0] rfl ?_
  obtain ⟨n0, n3, n4, n13⟩ := hwf.n
  refine z_aload_n (pc' := 1) X dX6_clear_0 rfl 0 rfl rfl ?_
  refine z_get (pc' := 4) (C := RX6) (ref := "PivotBeatsModel") (T := TX6) (N := 19) (v := .int (jI (σ 4 0))) X dX6_clear_1 rfl hin6 0 rfl rfl 4 (by decide) (by decide +kernel) rfl rfl ?_
  refine z_istore_n (pc' := 5) (lv' := [(1, .int (jI (σ 4 0))), (0, .ref (q 0))]) X dX6_clear_4 rfl rfl (by decide) rfl ?_
  refine z_aload_n (pc' := 6) X dX6_clear_5 rfl 1 rfl rfl ?_
  refine z_iconst (pc' := 7) X dX6_clear_6 rfl ?_
  refine z_put (pc' := 10) (C := RX6) (ref := "PivotBeatsModel") (T := TX6) (N := 19) (ty := .int) (w' := MW E q (up σ 4 0 0)) X dX6_clear_7 rfl hin6 tyX6 tyX6_ok nmX6 0 rfl rfl 4 (by decide) (by decide +kernel) rfl rfl (by decide +kernel) rfl rfl (Nat.le_of_ble_eq_true rfl) rfl ?_
  refine z_aload_n (pc' := 11) X dX6_clear_10 rfl 1 rfl rfl ?_
  refine z_iconst (pc' := 12) X dX6_clear_11 rfl ?_
  refine z_put (pc' := 15) (C := RX6) (ref := "PivotBeatsModel") (T := TX6) (N := 19) (ty := .int) (w' := MW E q (up (up σ 4 0 0) 0 0 0)) X dX6_clear_12 rfl hin6 tyX6 tyX6_ok nmX6 0 rfl rfl 0 (by decide) (by decide +kernel) rfl rfl (by decide +kernel) rfl rfl (Nat.le_of_ble_eq_true rfl) rfl ?_
  refine z_iload_n (pc' := 16) X dX6_clear_15 rfl 0 rfl rfl ?_
  exact z_iret (post := (fun (rv : Int) (uu : St) => (rv = σ 4 0 ∧ uu = up (up σ 4 0 0) 0 0 0))) X dX6_clear_16 hret (up (up σ 4 0 0) 0 0 0) (⟨rfl, rfl⟩)
set_option maxHeartbeats 4000000 in
set_option maxRecDepth 100000 in
theorem kX6_ticks (l : Launch) (D : va_G) (E : Nat → Nat) (q : Nat → Nat) (σ : St) (v : Int) (hwf : WfM σ) (hr : (-2147483648 ≤ v ∧ v < 2147483648)) : CtI l D E yX6_ticks wsX6_ticks ({ frames := 2, cells := 0, slots := 0, locals := 42 } : Room) [.ref (q 0), .int (jI v)] (MW E q σ) (MW E q) (fun (rv : Int) (uu : St) => σ = uu ∧ rv = (if 0 ≤ v ∧ v ≤ 19 then tk v else -1)) := by
  refine mk_I (cc := cX6_ticks) (maxL := 2) (ret := some .int) (by decide) rfl (Nat.le_of_ble_eq_true rfl) ?_
  intro p e s m args below meth c A X hret
  refine z_lv (lv' := [(0, .ref (q 0)), (1, .int (jI v))]) [0, 1] rfl ?_
  refine z_iload_n (pc' := 1) X dX6_ticks_0 rfl 1 rfl rfl ?_
  refine z_callPI (pc' := 4) (S := Unit) (As := [.int (jI v)]) (rest := []) X dX6_ticks_1 rfl (kX6_isValue l D E v  (by omega)) (va_cwS 1 X.1.2.2.2.2 gX6_ticks_X6_isValue rfl rfl rfl (by decide +kernel) ⟨Nat.le_of_ble_eq_true rfl, Nat.le_of_ble_eq_true rfl⟩) rfl rfl (Nat.le_of_ble_eq_true rfl) (fun r1 u1 hp1 => ?_)
  skip
  rcases hp1 with ⟨rfl, hp1⟩ | ⟨rfl, hp1⟩
  · refine z_if_eq (tgt := 14) (pc' := 7) X dX6_ticks_4 (by decide) rfl (by omega) (fun h => absurd h (by decide)) (fun _ => ?_)
    refine z_iload_n (pc' := 8) X dX6_ticks_7 rfl 1 rfl rfl ?_
    refine z_callPI (pc' := 11) (S := Unit) (As := [.int (jI v)]) (rest := []) X dX6_ticks_8 rfl (kX6_ticksOf l D E v  (by omega)) (va_cwS 1 X.1.2.2.2.2 gX6_ticks_X6_ticksOf rfl rfl rfl (by decide +kernel) ⟨Nat.le_of_ble_eq_true rfl, Nat.le_of_ble_eq_true rfl⟩) rfl rfl (Nat.le_of_ble_eq_true rfl) (fun r8 u8 hp8 => ?_)
    replace hp8 := hp8.symm; subst hp8
    refine z_goto (tgt := 15) X dX6_ticks_11 (by decide) ?_
    exact z_iret (post := (fun (rv : Int) (uu : St) => σ = uu ∧ rv = (if 0 ≤ v ∧ v ≤ 19 then tk v else -1))) X dX6_ticks_15 hret σ (⟨rfl, by first | (rw [if_pos hp1]; done) | (rw [if_neg hp1]; done)⟩)
  · refine z_if_eq (tgt := 14) (pc' := 7) X dX6_ticks_4 (by decide) rfl (by omega) (fun _ => ?_) (fun h => absurd h (by decide))
    refine z_iconst (pc' := 15) X dX6_ticks_14 rfl ?_
    exact z_iret (post := (fun (rv : Int) (uu : St) => σ = uu ∧ rv = (if 0 ≤ v ∧ v ≤ 19 then tk v else -1))) X dX6_ticks_15 hret σ (⟨rfl, by first | (rw [if_pos hp1]; done) | (rw [if_neg hp1]; done)⟩)
