/-- a share, by its greatest common divisor -/
theorem red_g {u l : Int} (hu : 0 < u) (hl : 0 < l) : (0 < u / gcdI u l ∧ u / gcdI u l ≤ u) ∧ (0 < l / gcdI u l ∧ l / gcdI u l ≤ l) ∧ u = u / gcdI u l * gcdI u l ∧ l = l / gcdI u l * gcdI u l := by
  have hg := gcdI_pos (a := u) hl
  have d1 : gcdI u l ∣ u := by
    unfold gcdI
    obtain ⟨c, hc⟩ := Nat.gcd_dvd_left u.toNat l.toNat
    exact ⟨(c : Int), by have : ((u.toNat : Nat) : Int) = ((Nat.gcd u.toNat l.toNat * c : Nat) : Int) := congrArg _ hc; rw [Int.natCast_mul] at this; omega⟩
  have d2 : gcdI u l ∣ l := by
    unfold gcdI
    obtain ⟨c, hc⟩ := Nat.gcd_dvd_right u.toNat l.toNat
    exact ⟨(c : Int), by have : ((l.toNat : Nat) : Int) = ((Nat.gcd u.toNat l.toNat * c : Nat) : Int) := congrArg _ hc; rw [Int.natCast_mul] at this; omega⟩
  have e1 := Int.ediv_mul_cancel d1
  have e2 := Int.ediv_mul_cancel d2
  have p1 : 0 < u / gcdI u l := by
    by_cases q : 0 < u / gcdI u l
    · exact q
    · have := Int.mul_nonpos_of_nonpos_of_nonneg (a := u / gcdI u l) (b := gcdI u l) (by omega) (by omega); omega
  have p2 : 0 < l / gcdI u l := by
    by_cases q : 0 < l / gcdI u l
    · exact q
    · have := Int.mul_nonpos_of_nonpos_of_nonneg (a := l / gcdI u l) (b := gcdI u l) (by omega) (by omega); omega
  exact ⟨⟨p1, Int.ediv_le_self _ (by omega)⟩, ⟨p2, Int.ediv_le_self _ (by omega)⟩, e1.symm, e2.symm⟩
theorem ls_eq {σ : St} {s st g U L : Int} (hwf : WfM σ) (hd : SPD σ (σ 4 0) 0) (hs : 0 ≤ s ∧ s < σ 0 0) (hz : ¬ σ 7 s = 0) (hst : 20 ≤ st ∧ st ≤ 400) (hbt : 1 ≤ σ 1 s ∧ σ 1 s ≤ 99) (r3 : st * σ 7 s = U * g) (r4 : σ 8 s = L * g) (hg : 0 < g) : σ 1 s * 60000 * L / U = lsF (σ 1) st (σ 4 0) (mA σ) (mV σ) (mB σ) (mW σ) s := by
  have n0 := hwf.n.1
  obtain ⟨jj, j7, j8, -⟩ := (sp_get hwf (eqM.rf σ) hd (by omega) (x := s) (by omega)).2.1 hz
  unfold lsF
  rw [if_pos jj]
  have hU : tU st (σ 4 0) (mA σ) (mV σ) (mB σ) (mW σ) s = U * g := by rw [← r3, j7]; rfl
  have hL : tL (σ 4 0) (mA σ) (mV σ) (mB σ) (mW σ) s = L * g := by rw [← r4, j8]; rfl
  rw [hU, hL, ← Int.mul_assoc, Int.mul_ediv_mul_of_pos_left _ _ hg]
theorem ls_bd {x y : Int} (hx : 0 ≤ x ∧ x ≤ 408193691811840000) (hy : 0 < y) : 0 ≤ x / y ∧ x / y ≤ 408193691811840000 := by
  have h1 : 0 ≤ x / y := Int.ediv_nonneg hx.1 (by omega)
  have h2 : x / y ≤ x := Int.ediv_le_self _ hx.1
  omega
theorem ls_00 {σ u : St} {s z : Int} (j : (0 ≤ u 7 s ∧ u 7 s ≤ 68719476736) ∧ (¬ u 7 s = 0 → jS (mA σ) (mV σ) (mB σ) (mW σ) (σ 4 0).toNat 0 s = jS (mA σ) (mV σ) (mB σ) (mW σ) (σ 4 0).toNat 0 0 ∧ u 7 s = pU (eX (σ 4 0) (mA σ) (mV σ) (mB σ) (mW σ) 0 s) (eY (σ 4 0) (mA σ) (mV σ) (mB σ) (mW σ) 0 s) ∧ u 8 s = pU (-(eX (σ 4 0) (mA σ) (mV σ) (mB σ) (mW σ) 0 s)) (-(eY (σ 4 0) (mA σ) (mV σ) (mB σ) (mW σ) 0 s)) ∧ u 9 s = iXor (jS (mA σ) (mV σ) (mB σ) (mW σ) (σ 4 0).toNat 3 0) (jS (mA σ) (mV σ) (mB σ) (mW σ) (σ 4 0).toNat 3 s) ∧ (1 ≤ u 7 s ∧ u 7 s ≤ 68719476736) ∧ (1 ≤ u 8 s ∧ u 8 s ≤ 68719476736) ∧ (0 ≤ u 9 s ∧ u 9 s < 4096)) ∧ (u 7 s = 0 → ¬ jS (mA σ) (mV σ) (mB σ) (mW σ) (σ 4 0).toNat 0 s = jS (mA σ) (mV σ) (mB σ) (mW σ) (σ 4 0).toNat 0 0)) (h : u 7 s = 0) : lsF (σ 1) z (σ 4 0) (mA σ) (mV σ) (mB σ) (mW σ) s = 0 := by
  unfold lsF
  rw [if_neg (j.2.2 h)]
theorem ls_0 {σ : St} {s z : Int} (hwf : WfM σ) (hd : SPD σ (σ 4 0) 0) (hs : 0 ≤ s ∧ s < 7) (h : σ 7 s = 0) : lsF (σ 1) z (σ 4 0) (mA σ) (mV σ) (mB σ) (mW σ) s = 0 := ls_00 (sp_get hwf (eqM.rf σ) hd (by omega) hs) h
theorem wh_step {f : Int → Int} {t x : Int} (h4 : ∀ j, 0 ≤ j → j < x → ¬ t < smI f (j + 1).toNat) (h : ¬ t < smI f (x + 1).toNat) (j : Int) (j0 : 0 ≤ j) (j1 : j < x + 1) : ¬ t < smI f (j + 1).toNat := by
  by_cases q : j = x
  · rw [q]; exact h
  · exact h4 j j0 (by omega)
theorem wi_step {f : Int → Int} {t x : Int} (h4 : ∀ j, 20 ≤ j → j < x → t < f j) (h : t < f x) (j : Int) (j0 : 20 ≤ j) (j1 : j < x + 1) : t < f j := by
  by_cases q : j = x
  · rw [q]; exact h
  · exact h4 j j0 (by omega)
section WH
variable {nS : Int} {bt : Int → Int} {st nT : Int} {a v b w : Int → Int} {t what x left : Int}
theorem wh_fi (hx : 0 ≤ x ∧ x < nS) (h : t < smI (lsF bt st nT a v b w) (x + 1).toNat) (h4 : ∀ j, 0 ≤ j → j < x → ¬ t < smI (lsF bt st nT a v b w) (j + 1).toNat) : fi1 (fun s => if t < smI (lsF bt st nT a v b w) (s + 1).toNat then 1 else 0) nS.toNat = x :=
  fi1_is hx.1 hx.2 (if_pos h) (fun j j0 j1 => by rw [if_neg (h4 j j0 j1)]; omega)
theorem wh_a (ht : 0 ≤ t ∧ t ≤ 100000000) (hw : 0 ≤ what ∧ what ≤ 1) (h0 : what = 0) (hx0 : 0 ≤ x) (hx : x < nS) (h : t < smI (lsF bt st nT a v b w) (x + 1).toNat) (h4 : ∀ j, 0 ≤ j → j < x → ¬ t < smI (lsF bt st nT a v b w) (j + 1).toNat) : x = fWhere nS bt st nT a v b w t what := by
  unfold fWhere
  rw [if_pos ⟨ht, hw⟩, wh_fi ⟨hx0, hx⟩ h h4, if_neg (by omega), if_pos h0]
theorem wh_b (ht : 0 ≤ t ∧ t ≤ 100000000) (hw : 0 ≤ what ∧ what ≤ 1) (h0 : ¬ what = 0) (hx0 : 0 ≤ x) (hx : x < nS) (h : t < smI (lsF bt st nT a v b w) (x + 1).toNat) (h4 : ∀ j, 0 ≤ j → j < x → ¬ t < smI (lsF bt st nT a v b w) (j + 1).toNat) (hl : left = t - smI (lsF bt st nT a v b w) x.toNat) : left = fWhere nS bt st nT a v b w t what := by
  unfold fWhere
  rw [if_pos ⟨ht, hw⟩, wh_fi ⟨hx0, hx⟩ h h4, if_neg (by omega), if_neg h0, hl]
theorem wh_9 (ht : 0 ≤ t ∧ t ≤ 100000000) (hw : 0 ≤ what ∧ what ≤ 1) (h4 : ∀ j, 0 ≤ j → j < nS → ¬ t < smI (lsF bt st nT a v b w) (j + 1).toNat) : -9 = fWhere nS bt st nT a v b w t what := by
  unfold fWhere
  rw [if_pos ⟨ht, hw⟩, if_pos (fi1_no _ (fun j j0 j1 => by rw [if_neg (h4 j j0 (by omega))]; omega))]
end WH
theorem pv_eq {σ u : St} {s q x : Int} (hwf : WfM σ) (hq : eqM u σ) (h7 : u 7 s = pU (eX (σ 4 0) (mA σ) (mV σ) (mB σ) (mW σ) 0 s) (eY (σ 4 0) (mA σ) (mV σ) (mB σ) (mW σ) 0 s)) (h8 : u 8 s = pU (-(eX (σ 4 0) (mA σ) (mV σ) (mB σ) (mW σ) 0 s)) (-(eY (σ 4 0) (mA σ) (mV σ) (mB σ) (mW σ) 0 s))) (e3 : u 3 0 = σ 3 0) : (u 3 0 * u 7 s * tk (x % 20) = q * u 8 s * tk (x / 20) → pvM (σ 3 0) (σ 4 0) (mA σ) (mV σ) (mB σ) (mW σ) s q x = 1) ∧ (¬ u 3 0 * u 7 s * tk (x % 20) = q * u 8 s * tk (x / 20) → pvM (σ 3 0) (σ 4 0) (mA σ) (mV σ) (mB σ) (mW σ) s q x = 0) := by
  unfold pvM tU tL
  rw [h7, h8, e3]
  exact ⟨fun h => if_pos h, fun h => if_neg h⟩
theorem pv_end {p : Int → Int} {n k x : Int} (h : n = smI p x.toNat) (hx : x = 400) (hk : n ≤ k) : smI p 400 ≤ k := by
  rw [h, hx] at hk
  exact hk

set_option maxHeartbeats 4000000 in
set_option maxRecDepth 100000 in
theorem kX6_lastsBy (l : Launch) (D : va_G) (E : Nat → Nat) (q : Nat → Nat) (σ : St) (s_ start : Int) (hwf : WfM σ) (hd : SPD σ (σ 4 0) 0) (hs : 0 ≤ s_ ∧ s_ < σ 0 0) (hz : ¬ σ 7 s_ = 0) (hst : 20 ≤ start ∧ start ≤ 400) : CtL l D E yX6_lastsBy wsX6_lastsBy ({ frames := 1, cells := 0, slots := 0, locals := 29 } : Room) [.ref (q 0), .int (jI s_), .int (jI start)] (MW E q σ) (MW E q) (fun (rv : Int) (uu : St) => σ = uu ∧ (rv = lsF (σ 1) start (σ 4 0) (mA σ) (mV σ) (mB σ) (mW σ) s_ ∧ (0 ≤ rv ∧ rv ≤ 408193691811840000))) := by
  refine mk_L (cc := cX6_lastsBy) (maxL := 7) (ret := some .long) (by decide) rfl (Nat.le_of_ble_eq_true rfl) ?_
  intro p e s m args below meth c A X hret
  have hin6 : ∀ x ∈ u_ws RX6 TX6 19, x ∈ wsX6_lastsBy := fun _ h => List.mem_cons_of_mem _ (List.mem_append_right _ h)
  refine z_lv (lv' := [(0, .ref (q 0)), (1, .int (jI s_)), (2, .int (jI start))]) [0, 1, 2] rfl ?_
  obtain ⟨n0, n3, n4, n13⟩ := hwf.n
  have j := sp_get hwf (eqM.rf σ) hd (by omega) (x := s_) (by omega)
  obtain ⟨jj, j7, j8, j9, jb, jc, jd⟩ := j.2.1 hz
  have hbt := hwf.2.1 s_ hs.1 hs.2
  have hpr := mul_bd1 (a := start) (b := σ 7 s_) (A := 400) (B := 68719476736) (by omega) (by omega)
  have hg := gcdI_pos (a := start * σ 7 s_) (b := σ 8 s_) (by omega)
  have hg2 := gcdI_le (a := start * σ 7 s_) (b := σ 8 s_) (by omega)
  obtain ⟨r1, r2, r3, r4⟩ := red_g (u := start * σ 7 s_) (l := σ 8 s_) (by omega) (by omega)
  have hpb := mul_bd (a := σ 1 s_ * 60000) (b := σ 8 s_ / gcdI (start * σ 7 s_) (σ 8 s_)) (A := 5940000) (B := 68719476736) (by omega) (by omega)
  refine z_iload_n (pc' := 1) X dX6_lastsBy_0 rfl 2 rfl rfl ?_
  refine z_i2l (pc' := 2) X dX6_lastsBy_1 rfl (by omega) ?_
  refine z_aload_n (pc' := 3) X dX6_lastsBy_2 rfl 0 rfl rfl ?_
  refine z_get (pc' := 6) (C := RX6) (ref := "PivotBeatsModel") (T := TX6) (N := 19) (v := .ref (q 7)) X dX6_lastsBy_3 rfl hin6 0 rfl rfl 7 (by decide) (by decide +kernel) rfl rfl ?_
  refine z_iload_n (pc' := 7) X dX6_lastsBy_6 rfl 1 rfl rfl ?_
  refine z_lald (pc' := 8) (f := σ 7) (n := 7) X dX6_lastsBy_7 rfl 5 rfl (by decide) (by omega) ?_
  refine z_lmul (pc' := 9) X dX6_lastsBy_8 rfl ?_
  refine z_lstore_n (pc' := 10) (lv' := [(3, .long (jL (start * (σ 7 s_)))), (0, .ref (q 0)), (1, .int (jI s_)), (2, .int (jI start))]) X dX6_lastsBy_9 rfl rfl (by decide) rfl ?_
  refine z_lload_n (pc' := 11) X dX6_lastsBy_10 rfl 0 rfl rfl ?_
  refine z_aload_n (pc' := 12) X dX6_lastsBy_11 rfl 1 rfl rfl ?_
  refine z_get (pc' := 15) (C := RX6) (ref := "PivotBeatsModel") (T := TX6) (N := 19) (v := .ref (q 8)) X dX6_lastsBy_12 rfl hin6 0 rfl rfl 8 (by decide) (by decide +kernel) rfl rfl ?_
  refine z_iload_n (pc' := 16) X dX6_lastsBy_15 rfl 2 rfl rfl ?_
  refine z_lald (pc' := 17) (f := σ 8) (n := 7) X dX6_lastsBy_16 rfl 6 rfl (by decide) (by omega) ?_
  refine z_callPL (pc' := 20) (S := Unit) (As := [.long (jL (start * (σ 7 s_))), .long (jL (σ 8 s_))]) (rest := []) X dX6_lastsBy_17 rfl (kX6_common l D E (start * (σ 7 s_)) (σ 8 s_)  (by omega)) (va_cwS 2 X.1.2.2.2.2 gX6_lastsBy_X6_common rfl rfl rfl (by decide +kernel) ⟨Nat.le_of_ble_eq_true rfl, Nat.le_of_ble_eq_true rfl⟩) rfl rfl (Nat.le_of_ble_eq_true rfl) (fun r17 u17 hp17 => ?_)
  replace hp17 := hp17.symm; subst hp17
  refine z_lstore (pc' := 22) (lv' := [(5, .long (jL (gcdI (start * (σ 7 s_)) (σ 8 s_)))), (3, .long (jL (start * (σ 7 s_)))), (0, .ref (q 0)), (1, .int (jI s_)), (2, .int (jI start))]) X dX6_lastsBy_20 rfl (by decide) rfl ?_
  refine z_aload_n (pc' := 23) X dX6_lastsBy_22 rfl 2 rfl rfl ?_
  refine z_get (pc' := 26) (C := RX6) (ref := "PivotBeatsModel") (T := TX6) (N := 19) (v := .ref (q 1)) X dX6_lastsBy_23 rfl hin6 0 rfl rfl 1 (by decide) (by decide +kernel) rfl rfl ?_
  refine z_iload_n (pc' := 27) X dX6_lastsBy_26 rfl 3 rfl rfl ?_
  refine z_iald (pc' := 28) (f := σ 1) (n := 7) X dX6_lastsBy_27 rfl 1 rfl (by decide) (by omega) ?_
  refine z_i2l (pc' := 29) X dX6_lastsBy_28 rfl (by omega) ?_
  refine z_ldc2 (pc' := 32) (x := 60000) X dX6_lastsBy_29 rfl (by decide +kernel) rfl ?_
  refine z_lmul (pc' := 33) X dX6_lastsBy_32 rfl ?_
  refine z_aload_n (pc' := 34) X dX6_lastsBy_33 rfl 2 rfl rfl ?_
  refine z_get (pc' := 37) (C := RX6) (ref := "PivotBeatsModel") (T := TX6) (N := 19) (v := .ref (q 8)) X dX6_lastsBy_34 rfl hin6 0 rfl rfl 8 (by decide) (by decide +kernel) rfl rfl ?_
  refine z_iload_n (pc' := 38) X dX6_lastsBy_37 rfl 3 rfl rfl ?_
  refine z_lald (pc' := 39) (f := σ 8) (n := 7) X dX6_lastsBy_38 rfl 6 rfl (by decide) (by omega) ?_
  refine z_lload (pc' := 41) X dX6_lastsBy_39 rfl 0 rfl ?_
  refine z_ldiv (pc' := 42) X dX6_lastsBy_41 rfl (by omega) ?_
  refine z_lmul (pc' := 43) X dX6_lastsBy_42 rfl ?_
  refine z_lload_n (pc' := 44) X dX6_lastsBy_43 rfl 1 rfl rfl ?_
  refine z_lload (pc' := 46) X dX6_lastsBy_44 rfl 0 rfl ?_
  refine z_ldiv (pc' := 47) X dX6_lastsBy_46 rfl (by omega) ?_
  refine z_ldiv (pc' := 48) X dX6_lastsBy_47 rfl (by omega) ?_
  exact z_lret (post := (fun (rv : Int) (uu : St) => σ = uu ∧ (rv = lsF (σ 1) start (σ 4 0) (mA σ) (mV σ) (mB σ) (mW σ) s_ ∧ (0 ≤ rv ∧ rv ≤ 408193691811840000)))) X dX6_lastsBy_48 hret σ (⟨rfl, ls_eq hwf hd hs hz hst hbt r3 r4 hg, ls_bd (by omega) (by omega)⟩)
set_option maxHeartbeats 4000000 in
set_option maxRecDepth 100000 in
theorem kX6_beginsAt (l : Launch) (D : va_G) (E : Nat → Nat) (q : Nat → Nat) (σ : St) (s_ : Int) (hwf : WfM σ) (hd : SPD σ (σ 4 0) 0) (hs : 0 ≤ s_ ∧ s_ ≤ σ 0 0) : CtL l D E yX6_beginsAt wsX6_beginsAt ({ frames := 2, cells := 0, slots := 0, locals := 55 } : Room) [.ref (q 0), .int (jI s_)] (MW E q σ) (MW E q) (fun (rv : Int) (uu : St) => σ = uu ∧ (rv = smI (lsF (σ 1) (σ 3 0) (σ 4 0) (mA σ) (mV σ) (mB σ) (mW σ)) s_.toNat ∧ (0 ≤ rv ∧ rv ≤ 408193691811840000 * 7))) := by
  refine mk_L (cc := cX6_beginsAt) (maxL := 5) (ret := some .long) (by decide) rfl (Nat.le_of_ble_eq_true rfl) ?_
  intro p e s m args below meth c A X hret
  have hin6 : ∀ x ∈ u_ws RX6 TX6 19, x ∈ wsX6_beginsAt := fun _ h => List.mem_cons_of_mem _ (List.mem_append_right _ h)
  refine z_lv (lv' := [(0, .ref (q 0)), (1, .int (jI s_))]) [0, 1] rfl ?_
  obtain ⟨n0, n3, n4, n13⟩ := hwf.n
  refine z_lconst (pc' := 1) (x := 0) X dX6_beginsAt_0 rfl rfl ?_
  refine z_lstore_n (pc' := 2) (lv' := [(2, .long (jL 0)), (0, .ref (q 0)), (1, .int (jI s_))]) X dX6_beginsAt_1 rfl rfl (by decide) rfl ?_
  refine z_iconst (pc' := 3) X dX6_beginsAt_2 rfl ?_
  refine z_istore (pc' := 5) (lv' := [(4, .int (jI 0)), (2, .long (jL 0)), (0, .ref (q 0)), (1, .int (jI s_))]) X dX6_beginsAt_3 rfl (by decide) rfl ?_
  have lp5 : ∀ (nF : Nat) (x : Int) (sum : Int) , ((0 ≤ x ∧ x ≤ s_) ∧ sum = smI (lsF (σ 1) (σ 3 0) (σ 4 0) (mA σ) (mV σ) (mB σ) (mW σ)) x.toNat ∧ (0 ≤ sum ∧ sum ≤ 408193691811840000 * x)) → ((7 - x).toNat : Nat) < nF → J p l e (headSpec wsX6_beginsAt ({ frames := 2, cells := 0, slots := 0, locals := 55 } : Room)).room s m args below meth c D A 5 (MQ below (va_Ql (fun r u => ∃ x, r = jL x ∧ (fun (rv : Int) (uu : St) => σ = uu ∧ (rv = smI (lsF (σ 1) (σ 3 0) (σ 4 0) (mA σ) (mV σ) (mB σ) (mW σ)) s_.toNat ∧ (0 ≤ rv ∧ rv ≤ 408193691811840000 * 7))) x u) (Bw D (MW E q) A) A) args s 0 0 A) 5 [(4, .int (jI x)), (2, .long (jL sum)), (0, .ref (q 0)), (1, .int (jI s_))] [] (MW E q σ) := by
    intro nF
    induction nF with
    | zero => intro x sum  hI hn; exact absurd hn (Nat.not_lt_zero _)
    | succ nF ih5 =>
      intro x sum  hI hn
      obtain ⟨h1, h2, h3⟩ := hI
      refine z_iload (pc' := 7) X dX6_beginsAt_5 rfl 0 rfl ?_
      refine z_iload_n (pc' := 8) X dX6_beginsAt_7 rfl 3 rfl rfl ?_
      refine z_icmp_ge (tgt := 46) (pc' := 11) X dX6_beginsAt_8 (by decide) rfl (by omega) (fun h8 => ?_) (fun h8 => ?_)
      · refine z_lload_n (pc' := 47) X dX6_beginsAt_46 rfl 1 rfl rfl ?_
        exact z_lret (post := (fun (rv : Int) (uu : St) => σ = uu ∧ (rv = smI (lsF (σ 1) (σ 3 0) (σ 4 0) (mA σ) (mV σ) (mB σ) (mW σ)) s_.toNat ∧ (0 ≤ rv ∧ rv ≤ 408193691811840000 * 7)))) X dX6_beginsAt_47 hret σ (⟨rfl, by rw [h2, show x = s_ by omega], by omega⟩)
      · have jv := (sp_get hwf (eqM.rf σ) hd (by omega) (x := x) (by omega)).1
        refine z_lload_n (pc' := 12) X dX6_beginsAt_11 rfl 1 rfl rfl ?_
        refine z_aload_n (pc' := 13) X dX6_beginsAt_12 rfl 2 rfl rfl ?_
        refine z_get (pc' := 16) (C := RX6) (ref := "PivotBeatsModel") (T := TX6) (N := 19) (v := .ref (q 7)) X dX6_beginsAt_13 rfl hin6 0 rfl rfl 7 (by decide) (by decide +kernel) rfl rfl ?_
        refine z_iload (pc' := 18) X dX6_beginsAt_16 rfl 0 rfl ?_
        refine z_lald (pc' := 19) (f := σ 7) (n := 7) X dX6_beginsAt_18 rfl 5 rfl (by decide) (by omega) ?_
        refine z_lconst (pc' := 20) (x := 0) X dX6_beginsAt_19 rfl rfl ?_
        refine z_lcmp_le (tgt := 37) (pc' := 24) X dX6_beginsAt_20 (pc1 := 21) rfl dX6_beginsAt_21 (by decide) rfl (by omega) (fun h20 => ?_) (fun h20 => ?_)
        · refine z_lconst (pc' := 38) (x := 0) X dX6_beginsAt_37 rfl rfl ?_
          refine z_ladd (pc' := 39) X dX6_beginsAt_38 rfl ?_
          refine z_lstore_n (pc' := 40) (lv' := [(2, .long (jL (sum + 0))), (4, .int (jI x)), (0, .ref (q 0)), (1, .int (jI s_))]) X dX6_beginsAt_39 rfl rfl (by decide) rfl ?_
          refine z_iinc (pc' := 43) (lv' := [(4, .int (jI (x + 1))), (2, .long (jL (sum + 0))), (0, .ref (q 0)), (1, .int (jI s_))]) X dX6_beginsAt_40 rfl 1 rfl (by decide) rfl ?_
          refine z_goto (tgt := 5) X dX6_beginsAt_43 (by decide) ?_
          exact ih5 (x + 1) (sum + 0)  (by first | exact ⟨by omega, by rw [smI_succ _ h1.1, ← h2, ls_0 hwf hd (by omega) (show σ 7 x = 0 by omega)], by omega⟩ | exact ⟨by omega, by rw [smI_succ _ h1.1, ← h2, er31], by omega⟩) (by omega)
        · refine z_aload_n (pc' := 25) X dX6_beginsAt_24 rfl 2 rfl rfl ?_
          refine z_iload (pc' := 27) X dX6_beginsAt_25 rfl 0 rfl ?_
          refine z_aload_n (pc' := 28) X dX6_beginsAt_27 rfl 2 rfl rfl ?_
          refine z_get (pc' := 31) (C := RX6) (ref := "PivotBeatsModel") (T := TX6) (N := 19) (v := .int (jI (σ 3 0))) X dX6_beginsAt_28 rfl hin6 0 rfl rfl 3 (by decide) (by decide +kernel) rfl rfl ?_
          refine z_callVL (pc' := 34) (S := St) (As := [.int (jI x), .int (jI (σ 3 0))]) (rest := [.long (jL sum)]) X dX6_beginsAt_31 rfl (kX6_lastsBy l D E q σ x (σ 3 0)  (hwf) (hd) (by omega) (by omega) (n3)) (cwV 2 X.1.2.2.2.2 gX6_beginsAt_X6_lastsBy rfl rfl rfl (by decide +kernel) ⟨Nat.le_of_ble_eq_true rfl, Nat.le_of_ble_eq_true rfl⟩) 0 rfl rfl rfl rfl (Nat.le_of_ble_eq_true rfl) (fun r31 u31 hp31 => ?_)
          obtain ⟨rfl, hp31⟩ := hp31
          obtain ⟨er31, eb31⟩ := hp31
          refine z_goto (tgt := 38) X dX6_beginsAt_34 (by decide) ?_
          refine z_ladd (pc' := 39) X dX6_beginsAt_38 rfl ?_
          refine z_lstore_n (pc' := 40) (lv' := [(2, .long (jL (sum + r31))), (4, .int (jI x)), (0, .ref (q 0)), (1, .int (jI s_))]) X dX6_beginsAt_39 rfl rfl (by decide) rfl ?_
          refine z_iinc (pc' := 43) (lv' := [(4, .int (jI (x + 1))), (2, .long (jL (sum + r31))), (0, .ref (q 0)), (1, .int (jI s_))]) X dX6_beginsAt_40 rfl 1 rfl (by decide) rfl ?_
          refine z_goto (tgt := 5) X dX6_beginsAt_43 (by decide) ?_
          exact ih5 (x + 1) (sum + r31)  (by first | exact ⟨by omega, by rw [smI_succ _ h1.1, ← h2, ls_0 hwf hd (by omega) (show σ 7 x = 0 by omega)], by omega⟩ | exact ⟨by omega, by rw [smI_succ _ h1.1, ← h2, er31], by omega⟩) (by omega)
  exact lp5 _ 0 0  (⟨by omega, rfl, by omega⟩) (Nat.lt_succ_self _)
set_option maxHeartbeats 4000000 in
set_option maxRecDepth 100000 in
theorem kX6_clock (l : Launch) (D : va_G) (E : Nat → Nat) (q : Nat → Nat) (σ : St) (s_ what : Int) (hwf : WfM σ) (hr : (-2147483648 ≤ s_ ∧ s_ < 2147483648) ∧ (-2147483648 ≤ what ∧ what < 2147483648)) : CtL l D E yX6_clock wsX6_clock ({ frames := 5, cells := 0, slots := 0, locals := 139 } : Room) [.ref (q 0), .int (jI s_), .int (jI what)] (MW E q σ) (MW E q) (fun (rv : Int) (uu : St) => (rv = fClock (σ 0 0) (σ 1) (σ 3 0) (σ 4 0) (mA σ) (mV σ) (mB σ) (mW σ) s_ what ∧ eqM uu σ)) := by
  refine mk_L (cc := cX6_clock) (maxL := 3) (ret := some .long) (by decide) rfl (Nat.le_of_ble_eq_true rfl) ?_
  intro p e s m args below meth c A X hret
  have hin6 : ∀ x ∈ u_ws RX6 TX6 19, x ∈ wsX6_clock := fun _ h => List.mem_cons_of_mem _ (List.mem_append_right _ h)
  refine z_lv (lv' := [(0, .ref (q 0)), (1, .int (jI s_)), (2, .int (jI what))]) [0, 1, 2] rfl ?_
  obtain ⟨n0, n3, n4, n13⟩ := hwf.n
  refine z_aload_n (pc' := 1) X dX6_clock_0 rfl 0 rfl rfl ?_
  refine z_iload_n (pc' := 2) X dX6_clock_1 rfl 1 rfl rfl ?_
  refine z_callVI (pc' := 5) (S := St) (As := [.int (jI s_)]) (rest := []) X dX6_clock_2 rfl (kX6_isSection l D E q σ s_  (hwf) (by omega)) (cwV 1 X.1.2.2.2.2 gX6_clock_X6_isSection rfl rfl rfl (by decide +kernel) ⟨Nat.le_of_ble_eq_true rfl, Nat.le_of_ble_eq_true rfl⟩) 0 rfl rfl rfl rfl (Nat.le_of_ble_eq_true rfl) (fun r2 u2 hp2 => ?_)
  obtain ⟨rfl, hp2⟩ := hp2
  rcases hp2 with ⟨rfl, hp2⟩ | ⟨rfl, hp2⟩
  · refine z_if_ne (tgt := 12) (pc' := 8) X dX6_clock_5 (by decide) rfl (by omega) (fun _ => ?_) (fun h => absurd h (by decide))
    refine z_iload_n (pc' := 13) X dX6_clock_12 rfl 2 rfl rfl ?_
    refine z_iconst (pc' := 14) X dX6_clock_13 rfl ?_
    refine z_iconst (pc' := 15) X dX6_clock_14 rfl ?_
    refine z_callPI (pc' := 18) (S := Unit) (As := [.int (jI what), .int (jI 0), .int (jI 1)]) (rest := []) X dX6_clock_15 rfl (kX6_isIn l D E what 0 1  (by omega)) (va_cwS 3 X.1.2.2.2.2 gX6_clock_X6_isIn rfl rfl rfl (by decide +kernel) ⟨Nat.le_of_ble_eq_true rfl, Nat.le_of_ble_eq_true rfl⟩) rfl rfl (Nat.le_of_ble_eq_true rfl) (fun r15 u15 hp15 => ?_)
    skip
    rcases hp15 with ⟨rfl, hp15⟩ | ⟨rfl, hp15⟩
    · refine z_if_ne (tgt := 25) (pc' := 21) X dX6_clock_18 (by decide) rfl (by omega) (fun _ => ?_) (fun h => absurd h (by decide))
      refine z_aload_n (pc' := 26) X dX6_clock_25 rfl 0 rfl rfl ?_
      refine z_iconst (pc' := 27) X dX6_clock_26 rfl ?_
      refine z_callVV (pc' := 30) (S := St) (As := [.int (jI 0)]) (rest := []) X dX6_clock_27 rfl (kX6_spreadAll l D E q σ 0  (hwf) (by omega)) (cwV 1 X.1.2.2.2.2 gX6_clock_X6_spreadAll rfl rfl rfl (by decide +kernel) ⟨Nat.le_of_ble_eq_true rfl, Nat.le_of_ble_eq_true rfl⟩) 0 rfl rfl rfl rfl (Nat.le_of_ble_eq_true rfl) (fun u27 hp27 => ?_)
      obtain ⟨hq27, hs27, hd27⟩ := hp27
      have w27 := hq27.wf hwf
      have e0 : u27 0 0 = σ 0 0 := by rw [hq27.1]
      have e3 : u27 3 0 = σ 3 0 := by rw [hq27.2.2.2.1]
      have e4 : u27 4 0 = σ 4 0 := by rw [hq27.2.2.2.2.1]
      have e13 : u27 13 0 = σ 13 0 := by rw [hq27.2.2.2.2.2.2.1]
      have hd2 : SPD u27 (u27 4 0) 0 := by rw [e4]; exact hd27
      have eL : ∀ z, lsF (u27 1) z (u27 4 0) (mA u27) (mV u27) (mB u27) (mW u27) = lsF (σ 1) z (σ 4 0) (mA σ) (mV σ) (mB σ) (mW σ) := fun z => by rw [hq27.2.1, e4, hq27.ties.1, hq27.ties.2.1, hq27.ties.2.2.1, hq27.ties.2.2.2.1]
      have j := sp_get hwf hq27 hd27 (by omega) (x := s_) (by omega)
      refine z_aload_n (pc' := 31) X dX6_clock_30 rfl 0 rfl rfl ?_
      refine z_get (pc' := 34) (C := RX6) (ref := "PivotBeatsModel") (T := TX6) (N := 19) (v := .ref (q 7)) X dX6_clock_31 rfl hin6 0 rfl rfl 7 (by decide) (by decide +kernel) rfl rfl ?_
      refine z_iload_n (pc' := 35) X dX6_clock_34 rfl 1 rfl rfl ?_
      refine z_lald (pc' := 36) (f := u27 7) (n := 7) X dX6_clock_35 rfl 5 rfl (by decide) (by omega) ?_
      refine z_lconst (pc' := 37) (x := 0) X dX6_clock_36 rfl rfl ?_
      refine z_lcmp_ne (tgt := 47) (pc' := 41) X dX6_clock_37 (pc1 := 38) rfl dX6_clock_38 (by decide) rfl (by (have := j.1; omega)) (fun h37 => ?_) (fun h37 => ?_)
      · refine z_iload_n (pc' := 48) X dX6_clock_47 rfl 2 rfl rfl ?_
        refine z_if_ne (tgt := 59) (pc' := 51) X dX6_clock_48 (by decide) rfl (by omega) (fun h48 => ?_) (fun h48 => ?_)
        · refine z_aload_n (pc' := 60) X dX6_clock_59 rfl 0 rfl rfl ?_
          refine z_iload_n (pc' := 61) X dX6_clock_60 rfl 1 rfl rfl ?_
          refine z_aload_n (pc' := 62) X dX6_clock_61 rfl 0 rfl rfl ?_
          refine z_get (pc' := 65) (C := RX6) (ref := "PivotBeatsModel") (T := TX6) (N := 19) (v := .int (jI (u27 3 0))) X dX6_clock_62 rfl hin6 0 rfl rfl 3 (by decide) (by decide +kernel) rfl rfl ?_
          refine z_callVL (pc' := 68) (S := St) (As := [.int (jI s_), .int (jI (u27 3 0))]) (rest := []) X dX6_clock_65 rfl (kX6_lastsBy l D E q u27 s_ (u27 3 0)  (w27) (hd2) (by omega) (h37) (by omega)) (cwV 2 X.1.2.2.2.2 gX6_clock_X6_lastsBy rfl rfl rfl (by decide +kernel) ⟨Nat.le_of_ble_eq_true rfl, Nat.le_of_ble_eq_true rfl⟩) 0 rfl rfl rfl rfl (Nat.le_of_ble_eq_true rfl) (fun r65 u65 hp65 => ?_)
          obtain ⟨rfl, hp65⟩ := hp65
          obtain ⟨er65, eb65⟩ := hp65
          exact z_lret (post := (fun (rv : Int) (uu : St) => (rv = fClock (σ 0 0) (σ 1) (σ 3 0) (σ 4 0) (mA σ) (mV σ) (mB σ) (mW σ) s_ what ∧ eqM uu σ))) X dX6_clock_68 hret u27 (by first | exact ⟨by unfold fClock; rw [if_pos hp2, if_pos hp15, if_neg (j.2.2 h37)], hq27⟩ | exact ⟨by unfold fClock; rw [if_pos hp2, if_pos hp15, if_pos (j.2.1 h37).1, if_pos h48, er53, eL, e3], hq27⟩ | exact ⟨by unfold fClock; rw [if_pos hp2, if_pos hp15, if_pos (j.2.1 h37).1, if_neg h48, er65, eL, e3], hq27⟩)
        · refine z_aload_n (pc' := 52) X dX6_clock_51 rfl 0 rfl rfl ?_
          refine z_iload_n (pc' := 53) X dX6_clock_52 rfl 1 rfl rfl ?_
          refine z_callVL (pc' := 56) (S := St) (As := [.int (jI s_)]) (rest := []) X dX6_clock_53 rfl (kX6_beginsAt l D E q u27 s_  (w27) (hd2) (by omega)) (cwV 1 X.1.2.2.2.2 gX6_clock_X6_beginsAt rfl rfl rfl (by decide +kernel) ⟨Nat.le_of_ble_eq_true rfl, Nat.le_of_ble_eq_true rfl⟩) 0 rfl rfl rfl rfl (Nat.le_of_ble_eq_true rfl) (fun r53 u53 hp53 => ?_)
          obtain ⟨rfl, hp53⟩ := hp53
          obtain ⟨er53, eb53⟩ := hp53
          refine z_goto (tgt := 68) X dX6_clock_56 (by decide) ?_
          exact z_lret (post := (fun (rv : Int) (uu : St) => (rv = fClock (σ 0 0) (σ 1) (σ 3 0) (σ 4 0) (mA σ) (mV σ) (mB σ) (mW σ) s_ what ∧ eqM uu σ))) X dX6_clock_68 hret u27 (by first | exact ⟨by unfold fClock; rw [if_pos hp2, if_pos hp15, if_neg (j.2.2 h37)], hq27⟩ | exact ⟨by unfold fClock; rw [if_pos hp2, if_pos hp15, if_pos (j.2.1 h37).1, if_pos h48, er53, eL, e3], hq27⟩ | exact ⟨by unfold fClock; rw [if_pos hp2, if_pos hp15, if_pos (j.2.1 h37).1, if_neg h48, er65, eL, e3], hq27⟩)
      · refine z_ldc2 (pc' := 44) (x := -9) X dX6_clock_41 rfl (by decide +kernel) rfl ?_
        refine z_goto (tgt := 68) X dX6_clock_44 (by decide) ?_
        exact z_lret (post := (fun (rv : Int) (uu : St) => (rv = fClock (σ 0 0) (σ 1) (σ 3 0) (σ 4 0) (mA σ) (mV σ) (mB σ) (mW σ) s_ what ∧ eqM uu σ))) X dX6_clock_68 hret u27 (by first | exact ⟨by unfold fClock; rw [if_pos hp2, if_pos hp15, if_neg (j.2.2 h37)], hq27⟩ | exact ⟨by unfold fClock; rw [if_pos hp2, if_pos hp15, if_pos (j.2.1 h37).1, if_pos h48, er53, eL, e3], hq27⟩ | exact ⟨by unfold fClock; rw [if_pos hp2, if_pos hp15, if_pos (j.2.1 h37).1, if_neg h48, er65, eL, e3], hq27⟩)
    · refine z_if_ne (tgt := 25) (pc' := 21) X dX6_clock_18 (by decide) rfl (by omega) (fun h => absurd h (by decide)) (fun _ => ?_)
      refine z_ldc2 (pc' := 24) (x := -2) X dX6_clock_21 rfl (by decide +kernel) rfl ?_
      exact z_lret (post := (fun (rv : Int) (uu : St) => (rv = fClock (σ 0 0) (σ 1) (σ 3 0) (σ 4 0) (mA σ) (mV σ) (mB σ) (mW σ) s_ what ∧ eqM uu σ))) X dX6_clock_24 hret σ (⟨by unfold fClock; rw [if_pos hp2, if_neg hp15], eqM.rf σ⟩)
  · refine z_if_ne (tgt := 12) (pc' := 8) X dX6_clock_5 (by decide) rfl (by omega) (fun h => absurd h (by decide)) (fun _ => ?_)
    refine z_ldc2 (pc' := 11) (x := -1) X dX6_clock_8 rfl (by decide +kernel) rfl ?_
    exact z_lret (post := (fun (rv : Int) (uu : St) => (rv = fClock (σ 0 0) (σ 1) (σ 3 0) (σ 4 0) (mA σ) (mV σ) (mB σ) (mW σ) s_ what ∧ eqM uu σ))) X dX6_clock_11 hret σ (⟨by unfold fClock; rw [if_neg hp2], eqM.rf σ⟩)
set_option maxHeartbeats 4000000 in
set_option maxRecDepth 100000 in
theorem kX6_whole (l : Launch) (D : va_G) (E : Nat → Nat) (q : Nat → Nat) (σ : St) (hwf : WfM σ) : CtL l D E yX6_whole wsX6_whole ({ frames := 5, cells := 0, slots := 0, locals := 139 } : Room) [.ref (q 0)] (MW E q σ) (MW E q) (fun (rv : Int) (uu : St) => (rv = fWhole (σ 0 0) (σ 1) (σ 3 0) (σ 4 0) (mA σ) (mV σ) (mB σ) (mW σ) ∧ eqM uu σ)) := by
  refine mk_L (cc := cX6_whole) (maxL := 1) (ret := some .long) (by decide) rfl (Nat.le_of_ble_eq_true rfl) ?_
  intro p e s m args below meth c A X hret
  have hin6 : ∀ x ∈ u_ws RX6 TX6 19, x ∈ wsX6_whole := fun _ h => List.mem_cons_of_mem _ (List.mem_append_right _ h)
  refine z_lv (lv' := [(0, .ref (q 0))]) [0] rfl ?_
  obtain ⟨n0, n3, n4, n13⟩ := hwf.n
  refine z_aload_n (pc' := 1) X dX6_whole_0 rfl 0 rfl rfl ?_
  refine z_iconst (pc' := 2) X dX6_whole_1 rfl ?_
  refine z_callVV (pc' := 5) (S := St) (As := [.int (jI 0)]) (rest := []) X dX6_whole_2 rfl (kX6_spreadAll l D E q σ 0  (hwf) (by omega)) (cwV 1 X.1.2.2.2.2 gX6_whole_X6_spreadAll rfl rfl rfl (by decide +kernel) ⟨Nat.le_of_ble_eq_true rfl, Nat.le_of_ble_eq_true rfl⟩) 0 rfl rfl rfl rfl (Nat.le_of_ble_eq_true rfl) (fun u2 hp2 => ?_)
  obtain ⟨hq2, hs2, hd2⟩ := hp2
  have w2 := hq2.wf hwf
  have e0 : u2 0 0 = σ 0 0 := by rw [hq2.1]
  have e3 : u2 3 0 = σ 3 0 := by rw [hq2.2.2.2.1]
  have e4 : u2 4 0 = σ 4 0 := by rw [hq2.2.2.2.2.1]
  have e13 : u2 13 0 = σ 13 0 := by rw [hq2.2.2.2.2.2.2.1]
  have hd2 : SPD u2 (u2 4 0) 0 := by rw [e4]; exact hd2
  have eL : ∀ z, lsF (u2 1) z (u2 4 0) (mA u2) (mV u2) (mB u2) (mW u2) = lsF (σ 1) z (σ 4 0) (mA σ) (mV σ) (mB σ) (mW σ) := fun z => by rw [hq2.2.1, e4, hq2.ties.1, hq2.ties.2.1, hq2.ties.2.2.1, hq2.ties.2.2.2.1]
  refine z_aload_n (pc' := 6) X dX6_whole_5 rfl 0 rfl rfl ?_
  refine z_aload_n (pc' := 7) X dX6_whole_6 rfl 0 rfl rfl ?_
  refine z_get (pc' := 10) (C := RX6) (ref := "PivotBeatsModel") (T := TX6) (N := 19) (v := .int (jI (u2 0 0))) X dX6_whole_7 rfl hin6 0 rfl rfl 0 (by decide) (by decide +kernel) rfl rfl ?_
  refine z_callVL (pc' := 13) (S := St) (As := [.int (jI (u2 0 0))]) (rest := []) X dX6_whole_10 rfl (kX6_beginsAt l D E q u2 (u2 0 0)  (w2) (hd2) (by omega)) (cwV 1 X.1.2.2.2.2 gX6_whole_X6_beginsAt rfl rfl rfl (by decide +kernel) ⟨Nat.le_of_ble_eq_true rfl, Nat.le_of_ble_eq_true rfl⟩) 0 rfl rfl rfl rfl (Nat.le_of_ble_eq_true rfl) (fun r10 u10 hp10 => ?_)
  obtain ⟨rfl, hp10⟩ := hp10
  obtain ⟨er10, eb10⟩ := hp10
  exact z_lret (post := (fun (rv : Int) (uu : St) => (rv = fWhole (σ 0 0) (σ 1) (σ 3 0) (σ 4 0) (mA σ) (mV σ) (mB σ) (mW σ) ∧ eqM uu σ))) X dX6_whole_13 hret u2 (⟨by unfold fWhole; rw [er10, eL, e3, e0], hq2⟩)
set_option maxHeartbeats 4000000 in
set_option maxRecDepth 100000 in
theorem kX6_where (l : Launch) (D : va_G) (E : Nat → Nat) (q : Nat → Nat) (σ : St) (t what : Int) (hwf : WfM σ) (hr : (-2147483648 ≤ t ∧ t < 2147483648) ∧ (-2147483648 ≤ what ∧ what < 2147483648)) : CtI l D E yX6_where wsX6_where ({ frames := 5, cells := 0, slots := 0, locals := 139 } : Room) [.ref (q 0), .int (jI t), .int (jI what)] (MW E q σ) (MW E q) (fun (rv : Int) (uu : St) => (rv = fWhere (σ 0 0) (σ 1) (σ 3 0) (σ 4 0) (mA σ) (mV σ) (mB σ) (mW σ) t what ∧ eqM uu σ)) := by
  refine mk_I (cc := cX6_where) (maxL := 8) (ret := some .int) (by decide) rfl (Nat.le_of_ble_eq_true rfl) ?_
  intro p e s m args below meth c A X hret
  have hin6 : ∀ x ∈ u_ws RX6 TX6 19, x ∈ wsX6_where := fun _ h => List.mem_cons_of_mem _ (List.mem_append_right _ h)
  refine z_lv (lv' := [(0, .ref (q 0)), (1, .int (jI t)), (2, .int (jI what))]) [0, 1, 2] rfl ?_
  obtain ⟨n0, n3, n4, n13⟩ := hwf.n
  refine z_iload_n (pc' := 1) X dX6_where_0 rfl 1 rfl rfl ?_
  refine z_iconst (pc' := 2) X dX6_where_1 rfl ?_
  refine z_ldc (pc' := 4) (x := 100000000) X dX6_where_2 rfl (by decide +kernel) rfl ?_
  refine z_callPI (pc' := 7) (S := Unit) (As := [.int (jI t), .int (jI 0), .int (jI 100000000)]) (rest := []) X dX6_where_4 rfl (kX6_isIn l D E t 0 100000000  (by omega)) (va_cwS 3 X.1.2.2.2.2 gX6_where_X6_isIn rfl rfl rfl (by decide +kernel) ⟨Nat.le_of_ble_eq_true rfl, Nat.le_of_ble_eq_true rfl⟩) rfl rfl (Nat.le_of_ble_eq_true rfl) (fun r4 u4 hp4 => ?_)
  skip
  rcases hp4 with ⟨rfl, hp4⟩ | ⟨rfl, hp4⟩
  · refine z_if_eq (tgt := 19) (pc' := 10) X dX6_where_7 (by decide) rfl (by omega) (fun h => absurd h (by decide)) (fun _ => ?_)
    refine z_iload_n (pc' := 11) X dX6_where_10 rfl 2 rfl rfl ?_
    refine z_iconst (pc' := 12) X dX6_where_11 rfl ?_
    refine z_iconst (pc' := 13) X dX6_where_12 rfl ?_
    refine z_callPI (pc' := 16) (S := Unit) (As := [.int (jI what), .int (jI 0), .int (jI 1)]) (rest := []) X dX6_where_13 rfl (kX6_isIn l D E what 0 1  (by omega)) (va_cwS 3 X.1.2.2.2.2 gX6_where_X6_isIn rfl rfl rfl (by decide +kernel) ⟨Nat.le_of_ble_eq_true rfl, Nat.le_of_ble_eq_true rfl⟩) rfl rfl (Nat.le_of_ble_eq_true rfl) (fun r13 u13 hp13 => ?_)
    skip
    rcases hp13 with ⟨rfl, hp13⟩ | ⟨rfl, hp13⟩
    · refine z_if_ne (tgt := 22) (pc' := 19) X dX6_where_16 (by decide) rfl (by omega) (fun _ => ?_) (fun h => absurd h (by decide))
      refine z_aload_n (pc' := 23) X dX6_where_22 rfl 0 rfl rfl ?_
      refine z_iconst (pc' := 24) X dX6_where_23 rfl ?_
      refine z_callVV (pc' := 27) (S := St) (As := [.int (jI 0)]) (rest := []) X dX6_where_24 rfl (kX6_spreadAll l D E q σ 0  (hwf) (by omega)) (cwV 1 X.1.2.2.2.2 gX6_where_X6_spreadAll rfl rfl rfl (by decide +kernel) ⟨Nat.le_of_ble_eq_true rfl, Nat.le_of_ble_eq_true rfl⟩) 0 rfl rfl rfl rfl (Nat.le_of_ble_eq_true rfl) (fun u24 hp24 => ?_)
      obtain ⟨hq24, hs24, hd24⟩ := hp24
      have w24 := hq24.wf hwf
      have e0 : u24 0 0 = σ 0 0 := by rw [hq24.1]
      have e3 : u24 3 0 = σ 3 0 := by rw [hq24.2.2.2.1]
      have e4 : u24 4 0 = σ 4 0 := by rw [hq24.2.2.2.2.1]
      have e13 : u24 13 0 = σ 13 0 := by rw [hq24.2.2.2.2.2.2.1]
      have hd2 : SPD u24 (u24 4 0) 0 := by rw [e4]; exact hd24
      have eL : ∀ z, lsF (u24 1) z (u24 4 0) (mA u24) (mV u24) (mB u24) (mW u24) = lsF (σ 1) z (σ 4 0) (mA σ) (mV σ) (mB σ) (mW σ) := fun z => by rw [hq24.2.1, e4, hq24.ties.1, hq24.ties.2.1, hq24.ties.2.2.1, hq24.ties.2.2.2.1]
      refine z_iload_n (pc' := 28) X dX6_where_27 rfl 1 rfl rfl ?_
      refine z_i2l (pc' := 29) X dX6_where_28 rfl (by omega) ?_
      refine z_lstore_n (pc' := 30) (lv' := [(3, .long (jL t)), (0, .ref (q 0)), (1, .int (jI t)), (2, .int (jI what))]) X dX6_where_29 rfl rfl (by decide) rfl ?_
      refine z_iconst (pc' := 31) X dX6_where_30 rfl ?_
      refine z_istore (pc' := 33) (lv' := [(5, .int (jI 0)), (3, .long (jL t)), (0, .ref (q 0)), (1, .int (jI t)), (2, .int (jI what))]) X dX6_where_31 rfl (by decide) rfl ?_
      have lp33 : ∀ (nF : Nat) (x : Int) (left : Int) , ((0 ≤ x ∧ x ≤ σ 0 0) ∧ left = t - smI (lsF (σ 1) (σ 3 0) (σ 4 0) (mA σ) (mV σ) (mB σ) (mW σ)) x.toNat ∧ (0 ≤ left ∧ left ≤ t) ∧ (∀ j, 0 ≤ j → j < x → ¬ t < smI (lsF (σ 1) (σ 3 0) (σ 4 0) (mA σ) (mV σ) (mB σ) (mW σ)) (j + 1).toNat)) → ((7 - x).toNat : Nat) < nF → J p l e (headSpec wsX6_where ({ frames := 5, cells := 0, slots := 0, locals := 139 } : Room)).room s m args below meth c D A 8 (MQ below (va_Qi (fun r u => ∃ x, r = jI x ∧ (fun (rv : Int) (uu : St) => (rv = fWhere (σ 0 0) (σ 1) (σ 3 0) (σ 4 0) (mA σ) (mV σ) (mB σ) (mW σ) t what ∧ eqM uu σ)) x u) (Bw D (MW E q) A) A) args s 0 0 A) 33 [(5, .int (jI x)), (3, .long (jL left)), (0, .ref (q 0)), (1, .int (jI t)), (2, .int (jI what))] [] (MW E q u24) := by
        intro nF
        induction nF with
        | zero => intro x left  hI hn; exact absurd hn (Nat.not_lt_zero _)
        | succ nF ih33 =>
          intro x left  hI hn
          obtain ⟨h1, h2, h3, h4⟩ := hI
          refine z_iload (pc' := 35) X dX6_where_33 rfl 0 rfl ?_
          refine z_aload_n (pc' := 36) X dX6_where_35 rfl 2 rfl rfl ?_
          refine z_get (pc' := 39) (C := RX6) (ref := "PivotBeatsModel") (T := TX6) (N := 19) (v := .int (jI (u24 0 0))) X dX6_where_36 rfl hin6 0 rfl rfl 0 (by decide) (by decide +kernel) rfl rfl ?_
          refine z_icmp_ge (tgt := 100) (pc' := 42) X dX6_where_39 (by decide) rfl (by omega) (fun h39 => ?_) (fun h39 => ?_)
          · refine z_bipush (pc' := 102) X dX6_where_100 rfl rfl ?_
            exact z_iret (post := (fun (rv : Int) (uu : St) => (rv = fWhere (σ 0 0) (σ 1) (σ 3 0) (σ 4 0) (mA σ) (mV σ) (mB σ) (mW σ) t what ∧ eqM uu σ))) X dX6_where_102 hret u24 (⟨wh_9 (by omega) (by omega) (by rw [← show x = σ 0 0 by omega]; exact h4), hq24⟩)
          · have jv := sp_get hwf hq24 hd24 (by omega) (x := x) (by omega)
            have sx := smI_succ (lsF (σ 1) (σ 3 0) (σ 4 0) (mA σ) (mV σ) (mB σ) (mW σ)) h1.1
            refine z_aload_n (pc' := 43) X dX6_where_42 rfl 2 rfl rfl ?_
            refine z_get (pc' := 46) (C := RX6) (ref := "PivotBeatsModel") (T := TX6) (N := 19) (v := .ref (q 7)) X dX6_where_43 rfl hin6 0 rfl rfl 7 (by decide) (by decide +kernel) rfl rfl ?_
            refine z_iload (pc' := 48) X dX6_where_46 rfl 0 rfl ?_
            refine z_lald (pc' := 49) (f := u24 7) (n := 7) X dX6_where_48 rfl 5 rfl (by decide) (by omega) ?_
            refine z_lconst (pc' := 50) (x := 0) X dX6_where_49 rfl rfl ?_
            have jn68 : ∀ (its : Int), (its = lsF (σ 1) (σ 3 0) (σ 4 0) (mA σ) (mV σ) (mB σ) (mW σ) x ∧ (0 ≤ its ∧ its ≤ 408193691811840000)) → J p l e (headSpec wsX6_where ({ frames := 5, cells := 0, slots := 0, locals := 139 } : Room)).room s m args below meth c D A 8 (MQ below (va_Qi (fun r u => ∃ x, r = jI x ∧ (fun (rv : Int) (uu : St) => (rv = fWhere (σ 0 0) (σ 1) (σ 3 0) (σ 4 0) (mA σ) (mV σ) (mB σ) (mW σ) t what ∧ eqM uu σ)) x u) (Bw D (MW E q) A) A) args s 0 0 A) 68 [(5, .int (jI x)), (3, .long (jL left)), (0, .ref (q 0)), (1, .int (jI t)), (2, .int (jI what))] [.long (jL its)] (MW E q u24) := by
              intro its hj68
              refine z_lstore (pc' := 70) (lv' := [(6, .long (jL its)), (5, .int (jI x)), (3, .long (jL left)), (0, .ref (q 0)), (1, .int (jI t)), (2, .int (jI what))]) X dX6_where_68 rfl (by decide) rfl ?_
              refine z_lload_n (pc' := 71) X dX6_where_70 rfl 2 rfl rfl ?_
              refine z_lload (pc' := 73) X dX6_where_71 rfl 0 rfl ?_
              refine z_lcmp_ge (tgt := 89) (pc' := 77) X dX6_where_73 (pc1 := 74) rfl dX6_where_74 (by decide) rfl (by omega) (fun h73 => ?_) (fun h73 => ?_)
              · refine z_lload_n (pc' := 90) X dX6_where_89 rfl 2 rfl rfl ?_
                refine z_lload (pc' := 92) X dX6_where_90 rfl 0 rfl ?_
                refine z_lsub (pc' := 93) X dX6_where_92 rfl ?_
                refine z_lstore_n (pc' := 94) (lv' := [(3, .long (jL (left - its))), (6, .long (jL its)), (5, .int (jI x)), (0, .ref (q 0)), (1, .int (jI t)), (2, .int (jI what))]) X dX6_where_93 rfl rfl (by decide) rfl ?_
                refine z_iinc (pc' := 97) (lv' := [(5, .int (jI (x + 1))), (3, .long (jL (left - its))), (6, .long (jL its)), (0, .ref (q 0)), (1, .int (jI t)), (2, .int (jI what))]) X dX6_where_94 rfl 2 rfl (by decide) rfl ?_
                refine z_goto (tgt := 33) X dX6_where_97 (by decide) ?_
                refine z_lv (lv' := [(5, .int (jI (x + 1))), (3, .long (jL (left - its))), (0, .ref (q 0)), (1, .int (jI t)), (2, .int (jI what))]) [0, 1, 3, 4, 5] rfl ?_
                exact ih33 (x + 1) (left - its)  (⟨by omega, by rw [sx, h2, hj68.1]; omega, by omega, wh_step h4 (by rw [sx, ← hj68.1]; omega)⟩) (by omega)
              · refine z_iload_n (pc' := 78) X dX6_where_77 rfl 5 rfl rfl ?_
                refine z_if_ne (tgt := 86) (pc' := 81) X dX6_where_78 (by decide) rfl (by omega) (fun h78 => ?_) (fun h78 => ?_)
                · refine z_lload_n (pc' := 87) X dX6_where_86 rfl 2 rfl rfl ?_
                  refine z_l2i (pc' := 88) X dX6_where_87 rfl ?_
                  exact z_iret (post := (fun (rv : Int) (uu : St) => (rv = fWhere (σ 0 0) (σ 1) (σ 3 0) (σ 4 0) (mA σ) (mV σ) (mB σ) (mW σ) t what ∧ eqM uu σ))) X dX6_where_88 hret u24 (by first | exact ⟨wh_a (by omega) (by omega) h78 (by omega) (by omega) (by rw [sx, ← hj68.1]; omega) h4, hq24⟩ | exact ⟨wh_b (by omega) (by omega) h78 (by omega) (by omega) (by rw [sx, ← hj68.1]; omega) h4 h2, hq24⟩)
                · refine z_iload (pc' := 83) X dX6_where_81 rfl 1 rfl ?_
                  refine z_goto (tgt := 88) X dX6_where_83 (by decide) ?_
                  exact z_iret (post := (fun (rv : Int) (uu : St) => (rv = fWhere (σ 0 0) (σ 1) (σ 3 0) (σ 4 0) (mA σ) (mV σ) (mB σ) (mW σ) t what ∧ eqM uu σ))) X dX6_where_88 hret u24 (by first | exact ⟨wh_a (by omega) (by omega) h78 (by omega) (by omega) (by rw [sx, ← hj68.1]; omega) h4, hq24⟩ | exact ⟨wh_b (by omega) (by omega) h78 (by omega) (by omega) (by rw [sx, ← hj68.1]; omega) h4 h2, hq24⟩)
            refine z_lcmp_le (tgt := 67) (pc' := 54) X dX6_where_50 (pc1 := 51) rfl dX6_where_51 (by decide) rfl (by omega) (fun h50 => ?_) (fun h50 => ?_)
            · refine z_lconst (pc' := 68) (x := 0) X dX6_where_67 rfl rfl ?_
              exact jn68 0 (by first | exact ⟨(ls_00 jv (by omega)).symm, by omega⟩ | exact ⟨by rw [er61, eL, e3], eb61⟩)
            · refine z_aload_n (pc' := 55) X dX6_where_54 rfl 2 rfl rfl ?_
              refine z_iload (pc' := 57) X dX6_where_55 rfl 0 rfl ?_
              refine z_aload_n (pc' := 58) X dX6_where_57 rfl 2 rfl rfl ?_
              refine z_get (pc' := 61) (C := RX6) (ref := "PivotBeatsModel") (T := TX6) (N := 19) (v := .int (jI (u24 3 0))) X dX6_where_58 rfl hin6 0 rfl rfl 3 (by decide) (by decide +kernel) rfl rfl ?_
              refine z_callVL (pc' := 64) (S := St) (As := [.int (jI x), .int (jI (u24 3 0))]) (rest := []) X dX6_where_61 rfl (kX6_lastsBy l D E q u24 x (u24 3 0)  (w24) (hd2) (by omega) (by omega) (by omega)) (cwV 2 X.1.2.2.2.2 gX6_where_X6_lastsBy rfl rfl rfl (by decide +kernel) ⟨Nat.le_of_ble_eq_true rfl, Nat.le_of_ble_eq_true rfl⟩) 0 rfl rfl rfl rfl (Nat.le_of_ble_eq_true rfl) (fun r61 u61 hp61 => ?_)
              obtain ⟨rfl, hp61⟩ := hp61
              obtain ⟨er61, eb61⟩ := hp61
              refine z_goto (tgt := 68) X dX6_where_64 (by decide) ?_
              exact jn68 r61 (by first | exact ⟨(ls_00 jv (by omega)).symm, by omega⟩ | exact ⟨by rw [er61, eL, e3], eb61⟩)
      exact lp33 _ 0 t  (⟨by omega, (Int.sub_zero t).symm, by omega, fun j h1 h2 => by omega⟩) (Nat.lt_succ_self _)
    · refine z_if_ne (tgt := 22) (pc' := 19) X dX6_where_16 (by decide) rfl (by omega) (fun h => absurd h (by decide)) (fun _ => ?_)
      refine z_bipush (pc' := 21) X dX6_where_19 rfl rfl ?_
      exact z_iret (post := (fun (rv : Int) (uu : St) => (rv = fWhere (σ 0 0) (σ 1) (σ 3 0) (σ 4 0) (mA σ) (mV σ) (mB σ) (mW σ) t what ∧ eqM uu σ))) X dX6_where_21 hret σ (⟨by unfold fWhere; rw [if_neg (by omega)], eqM.rf σ⟩)
  · refine z_if_eq (tgt := 19) (pc' := 10) X dX6_where_7 (by decide) rfl (by omega) (fun _ => ?_) (fun h => absurd h (by decide))
    refine z_bipush (pc' := 21) X dX6_where_19 rfl rfl ?_
    exact z_iret (post := (fun (rv : Int) (uu : St) => (rv = fWhere (σ 0 0) (σ 1) (σ 3 0) (σ 4 0) (mA σ) (mV σ) (mB σ) (mW σ) t what ∧ eqM uu σ))) X dX6_where_21 hret σ (⟨by unfold fWhere; rw [if_neg (by omega)], eqM.rf σ⟩)
set_option maxHeartbeats 4000000 in
set_option maxRecDepth 100000 in
theorem kX6_within (l : Launch) (D : va_G) (E : Nat → Nat) (q : Nat → Nat) (σ : St) (t : Int) (hwf : WfM σ) (hr : (-2147483648 ≤ t ∧ t < 2147483648)) : CtI l D E yX6_within wsX6_within ({ frames := 5, cells := 0, slots := 0, locals := 139 } : Room) [.ref (q 0), .int (jI t)] (MW E q σ) (MW E q) (fun (rv : Int) (uu : St) => (fWithin (σ 0 0) (σ 1) (σ 4 0) (mA σ) (mV σ) (mB σ) (mW σ) t rv ∧ eqM uu σ)) := by
  refine mk_I (cc := cX6_within) (maxL := 6) (ret := some .int) (by decide) rfl (Nat.le_of_ble_eq_true rfl) ?_
  intro p e s m args below meth c A X hret
  have hin6 : ∀ x ∈ u_ws RX6 TX6 19, x ∈ wsX6_within := fun _ h => List.mem_cons_of_mem _ (List.mem_append_right _ h)
  refine z_lv (lv' := [(0, .ref (q 0)), (1, .int (jI t))]) [0, 1] rfl ?_
  obtain ⟨n0, n3, n4, n13⟩ := hwf.n
  refine z_iload_n (pc' := 1) X dX6_within_0 rfl 1 rfl rfl ?_
  refine z_iconst (pc' := 2) X dX6_within_1 rfl ?_
  refine z_ldc (pc' := 4) (x := 100000000) X dX6_within_2 rfl (by decide +kernel) rfl ?_
  refine z_callPI (pc' := 7) (S := Unit) (As := [.int (jI t), .int (jI 0), .int (jI 100000000)]) (rest := []) X dX6_within_4 rfl (kX6_isIn l D E t 0 100000000  (by omega)) (va_cwS 3 X.1.2.2.2.2 gX6_within_X6_isIn rfl rfl rfl (by decide +kernel) ⟨Nat.le_of_ble_eq_true rfl, Nat.le_of_ble_eq_true rfl⟩) rfl rfl (Nat.le_of_ble_eq_true rfl) (fun r4 u4 hp4 => ?_)
  skip
  rcases hp4 with ⟨rfl, hp4⟩ | ⟨rfl, hp4⟩
  · refine z_if_ne (tgt := 13) (pc' := 10) X dX6_within_7 (by decide) rfl (by omega) (fun _ => ?_) (fun h => absurd h (by decide))
    refine z_aload_n (pc' := 14) X dX6_within_13 rfl 0 rfl rfl ?_
    refine z_iconst (pc' := 15) X dX6_within_14 rfl ?_
    refine z_callVV (pc' := 18) (S := St) (As := [.int (jI 0)]) (rest := []) X dX6_within_15 rfl (kX6_spreadAll l D E q σ 0  (hwf) (by omega)) (cwV 1 X.1.2.2.2.2 gX6_within_X6_spreadAll rfl rfl rfl (by decide +kernel) ⟨Nat.le_of_ble_eq_true rfl, Nat.le_of_ble_eq_true rfl⟩) 0 rfl rfl rfl rfl (Nat.le_of_ble_eq_true rfl) (fun u15 hp15 => ?_)
    obtain ⟨hq15, hs15, hd15⟩ := hp15
    have w15 := hq15.wf hwf
    have e0 : u15 0 0 = σ 0 0 := by rw [hq15.1]
    have e3 : u15 3 0 = σ 3 0 := by rw [hq15.2.2.2.1]
    have e4 : u15 4 0 = σ 4 0 := by rw [hq15.2.2.2.2.1]
    have e13 : u15 13 0 = σ 13 0 := by rw [hq15.2.2.2.2.2.2.1]
    have hd2 : SPD u15 (u15 4 0) 0 := by rw [e4]; exact hd15
    have eL : ∀ z, lsF (u15 1) z (u15 4 0) (mA u15) (mV u15) (mB u15) (mW u15) = lsF (σ 1) z (σ 4 0) (mA σ) (mV σ) (mB σ) (mW σ) := fun z => by rw [hq15.2.1, e4, hq15.ties.1, hq15.ties.2.1, hq15.ties.2.2.1, hq15.ties.2.2.2.1]
    refine z_bipush (pc' := 20) X dX6_within_18 rfl rfl ?_
    refine z_istore_n (pc' := 21) (lv' := [(2, .int (jI 20)), (0, .ref (q 0)), (1, .int (jI t))]) X dX6_within_20 rfl rfl (by decide) rfl ?_
    have lp21 : ∀ (nF : Nat) (start : Int) , ((20 ≤ start ∧ start ≤ 401) ∧ ∀ y, 20 ≤ y → y < start → t < smI (lsF (σ 1) y (σ 4 0) (mA σ) (mV σ) (mB σ) (mW σ)) (σ 0 0).toNat) → ((401 - start).toNat : Nat) < nF → J p l e (headSpec wsX6_within ({ frames := 5, cells := 0, slots := 0, locals := 139 } : Room)).room s m args below meth c D A 6 (MQ below (va_Qi (fun r u => ∃ x, r = jI x ∧ (fun (rv : Int) (uu : St) => (fWithin (σ 0 0) (σ 1) (σ 4 0) (mA σ) (mV σ) (mB σ) (mW σ) t rv ∧ eqM uu σ)) x u) (Bw D (MW E q) A) A) args s 0 0 A) 21 [(2, .int (jI start)), (0, .ref (q 0)), (1, .int (jI t))] [] (MW E q u15) := by
      intro nF
      induction nF with
      | zero => intro start  hI hn; exact absurd hn (Nat.not_lt_zero _)
      | succ nF ih21 =>
        intro start  hI hn
        obtain ⟨g1, g2⟩ := hI
        refine z_iload_n (pc' := 22) X dX6_within_21 rfl 0 rfl rfl ?_
        refine z_sipush (pc' := 25) X dX6_within_22 rfl rfl ?_
        refine z_icmp_gt (tgt := 89) (pc' := 28) X dX6_within_25 (by decide) rfl (by omega) (fun h25 => ?_) (fun h25 => ?_)
        · refine z_bipush (pc' := 91) X dX6_within_89 rfl rfl ?_
          exact z_iret (post := (fun (rv : Int) (uu : St) => (fWithin (σ 0 0) (σ 1) (σ 4 0) (mA σ) (mV σ) (mB σ) (mW σ) t rv ∧ eqM uu σ))) X dX6_within_91 hret u15 (⟨Or.inl ⟨hp4, rfl, fun y y0 y1 => g2 y y0 (by omega)⟩, hq15⟩)
        · refine z_lconst (pc' := 29) (x := 0) X dX6_within_28 rfl rfl ?_
          refine z_lstore_n (pc' := 30) (lv' := [(3, .long (jL 0)), (2, .int (jI start)), (0, .ref (q 0)), (1, .int (jI t))]) X dX6_within_29 rfl rfl (by decide) rfl ?_
          refine z_iconst (pc' := 31) X dX6_within_30 rfl ?_
          refine z_istore (pc' := 33) (lv' := [(5, .int (jI 0)), (3, .long (jL 0)), (2, .int (jI start)), (0, .ref (q 0)), (1, .int (jI t))]) X dX6_within_31 rfl (by decide) rfl ?_
          have lp33 : ∀ (nF : Nat) (x : Int) (sum : Int) , ((0 ≤ x ∧ x ≤ σ 0 0) ∧ sum = smI (lsF (σ 1) start (σ 4 0) (mA σ) (mV σ) (mB σ) (mW σ)) x.toNat ∧ (0 ≤ sum ∧ sum ≤ 408193691811840000 * x)) → ((7 - x).toNat : Nat) < nF → J p l e (headSpec wsX6_within ({ frames := 5, cells := 0, slots := 0, locals := 139 } : Room)).room s m args below meth c D A 6 (MQ below (va_Qi (fun r u => ∃ x, r = jI x ∧ (fun (rv : Int) (uu : St) => (fWithin (σ 0 0) (σ 1) (σ 4 0) (mA σ) (mV σ) (mB σ) (mW σ) t rv ∧ eqM uu σ)) x u) (Bw D (MW E q) A) A) args s 0 0 A) 33 [(5, .int (jI x)), (3, .long (jL sum)), (2, .int (jI start)), (0, .ref (q 0)), (1, .int (jI t))] [] (MW E q u15) := by
            intro nF
            induction nF with
            | zero => intro x sum  hI hn; exact absurd hn (Nat.not_lt_zero _)
            | succ nF ih33 =>
              intro x sum  hI hn
              obtain ⟨h1, h2, h3⟩ := hI
              refine z_iload (pc' := 35) X dX6_within_33 rfl 0 rfl ?_
              refine z_aload_n (pc' := 36) X dX6_within_35 rfl 3 rfl rfl ?_
              refine z_get (pc' := 39) (C := RX6) (ref := "PivotBeatsModel") (T := TX6) (N := 19) (v := .int (jI (u15 0 0))) X dX6_within_36 rfl hin6 0 rfl rfl 0 (by decide) (by decide +kernel) rfl rfl ?_
              refine z_icmp_ge (tgt := 74) (pc' := 42) X dX6_within_39 (by decide) rfl (by omega) (fun h39 => ?_) (fun h39 => ?_)
              · refine z_lload_n (pc' := 75) X dX6_within_74 rfl 1 rfl rfl ?_
                refine z_iload_n (pc' := 76) X dX6_within_75 rfl 4 rfl rfl ?_
                refine z_i2l (pc' := 77) X dX6_within_76 rfl (by omega) ?_
                refine z_lcmp_gt (tgt := 83) (pc' := 81) X dX6_within_77 (pc1 := 78) rfl dX6_within_78 (by decide) rfl (by omega) (fun h77 => ?_) (fun h77 => ?_)
                · refine z_iinc (pc' := 86) (lv' := [(2, .int (jI (start + 1))), (5, .int (jI x)), (3, .long (jL sum)), (0, .ref (q 0)), (1, .int (jI t))]) X dX6_within_83 rfl 2 rfl (by decide) rfl ?_
                  refine z_goto (tgt := 21) X dX6_within_86 (by decide) ?_
                  refine z_lv (lv' := [(2, .int (jI (start + 1))), (0, .ref (q 0)), (1, .int (jI t))]) [0, 3, 4] rfl ?_
                  exact ih21 (start + 1)  (⟨by omega, wi_step g2 (by rw [← show x = σ 0 0 by omega, ← h2]; exact h77)⟩) (by omega)
                · refine z_iload_n (pc' := 82) X dX6_within_81 rfl 2 rfl rfl ?_
                  exact z_iret (post := (fun (rv : Int) (uu : St) => (fWithin (σ 0 0) (σ 1) (σ 4 0) (mA σ) (mV σ) (mB σ) (mW σ) t rv ∧ eqM uu σ))) X dX6_within_82 hret u15 (⟨Or.inr (Or.inl ⟨hp4, by omega, by rw [← show x = σ 0 0 by omega, ← h2]; exact h77, g2⟩), hq15⟩)
              · have jv := sp_get hwf hq15 hd15 (by omega) (x := x) (by omega)
                refine z_lload_n (pc' := 43) X dX6_within_42 rfl 1 rfl rfl ?_
                refine z_aload_n (pc' := 44) X dX6_within_43 rfl 3 rfl rfl ?_
                refine z_get (pc' := 47) (C := RX6) (ref := "PivotBeatsModel") (T := TX6) (N := 19) (v := .ref (q 7)) X dX6_within_44 rfl hin6 0 rfl rfl 7 (by decide) (by decide +kernel) rfl rfl ?_
                refine z_iload (pc' := 49) X dX6_within_47 rfl 0 rfl ?_
                refine z_lald (pc' := 50) (f := u15 7) (n := 7) X dX6_within_49 rfl 5 rfl (by decide) (by omega) ?_
                refine z_lconst (pc' := 51) (x := 0) X dX6_within_50 rfl rfl ?_
                refine z_lcmp_le (tgt := 65) (pc' := 55) X dX6_within_51 (pc1 := 52) rfl dX6_within_52 (by decide) rfl (by omega) (fun h51 => ?_) (fun h51 => ?_)
                · refine z_lconst (pc' := 66) (x := 0) X dX6_within_65 rfl rfl ?_
                  refine z_ladd (pc' := 67) X dX6_within_66 rfl ?_
                  refine z_lstore_n (pc' := 68) (lv' := [(3, .long (jL (sum + 0))), (5, .int (jI x)), (2, .int (jI start)), (0, .ref (q 0)), (1, .int (jI t))]) X dX6_within_67 rfl rfl (by decide) rfl ?_
                  refine z_iinc (pc' := 71) (lv' := [(5, .int (jI (x + 1))), (3, .long (jL (sum + 0))), (2, .int (jI start)), (0, .ref (q 0)), (1, .int (jI t))]) X dX6_within_68 rfl 1 rfl (by decide) rfl ?_
                  refine z_goto (tgt := 33) X dX6_within_71 (by decide) ?_
                  exact ih33 (x + 1) (sum + 0)  (by first | exact ⟨by omega, by rw [smI_succ _ h1.1, ← h2, ls_00 jv (by omega)], by omega⟩ | exact ⟨by omega, by rw [smI_succ _ h1.1, ← h2, er59, eL], by omega⟩) (by omega)
                · refine z_aload_n (pc' := 56) X dX6_within_55 rfl 3 rfl rfl ?_
                  refine z_iload (pc' := 58) X dX6_within_56 rfl 0 rfl ?_
                  refine z_iload_n (pc' := 59) X dX6_within_58 rfl 2 rfl rfl ?_
                  refine z_callVL (pc' := 62) (S := St) (As := [.int (jI x), .int (jI start)]) (rest := [.long (jL sum)]) X dX6_within_59 rfl (kX6_lastsBy l D E q u15 x start  (w15) (hd2) (by omega) (by omega) (by omega)) (cwV 2 X.1.2.2.2.2 gX6_within_X6_lastsBy rfl rfl rfl (by decide +kernel) ⟨Nat.le_of_ble_eq_true rfl, Nat.le_of_ble_eq_true rfl⟩) 0 rfl rfl rfl rfl (Nat.le_of_ble_eq_true rfl) (fun r59 u59 hp59 => ?_)
                  obtain ⟨rfl, hp59⟩ := hp59
                  obtain ⟨er59, eb59⟩ := hp59
                  refine z_goto (tgt := 66) X dX6_within_62 (by decide) ?_
                  refine z_ladd (pc' := 67) X dX6_within_66 rfl ?_
                  refine z_lstore_n (pc' := 68) (lv' := [(3, .long (jL (sum + r59))), (5, .int (jI x)), (2, .int (jI start)), (0, .ref (q 0)), (1, .int (jI t))]) X dX6_within_67 rfl rfl (by decide) rfl ?_
                  refine z_iinc (pc' := 71) (lv' := [(5, .int (jI (x + 1))), (3, .long (jL (sum + r59))), (2, .int (jI start)), (0, .ref (q 0)), (1, .int (jI t))]) X dX6_within_68 rfl 1 rfl (by decide) rfl ?_
                  refine z_goto (tgt := 33) X dX6_within_71 (by decide) ?_
                  exact ih33 (x + 1) (sum + r59)  (by first | exact ⟨by omega, by rw [smI_succ _ h1.1, ← h2, ls_00 jv (by omega)], by omega⟩ | exact ⟨by omega, by rw [smI_succ _ h1.1, ← h2, er59, eL], by omega⟩) (by omega)
          exact lp33 _ 0 0  (⟨by omega, rfl, by omega⟩) (Nat.lt_succ_self _)
    exact lp21 _ 20  (⟨by omega, fun y h1 h2 => by omega⟩) (Nat.lt_succ_self _)
  · refine z_if_ne (tgt := 13) (pc' := 10) X dX6_within_7 (by decide) rfl (by omega) (fun h => absurd h (by decide)) (fun _ => ?_)
    refine z_bipush (pc' := 12) X dX6_within_10 rfl rfl ?_
    exact z_iret (post := (fun (rv : Int) (uu : St) => (fWithin (σ 0 0) (σ 1) (σ 4 0) (mA σ) (mV σ) (mB σ) (mW σ) t rv ∧ eqM uu σ))) X dX6_within_12 hret σ (⟨Or.inr (Or.inr ⟨hp4, rfl⟩), eqM.rf σ⟩)
set_option maxHeartbeats 4000000 in
set_option maxRecDepth 100000 in
theorem kX6_manyOf (l : Launch) (D : va_G) (E : Nat → Nat) (q : Nat → Nat) (σ : St) (sort : Int) (hwf : WfM σ) (hr : (-2147483648 ≤ sort ∧ sort < 2147483648)) : CtI l D E yX6_manyOf wsX6_manyOf ({ frames := 4, cells := 0, slots := 0, locals := 118 } : Room) [.ref (q 0), .int (jI sort)] (MW E q σ) (MW E q) (fun (rv : Int) (uu : St) => (rv = smI (fun k => if jK (mA σ) (mV σ) (mB σ) (mW σ) k.toNat = sort then 1 else 0) (σ 4 0).toNat ∧ (0 ≤ rv ∧ rv ≤ 12) ∧ eqM uu σ)) := by
  refine mk_I (cc := cX6_manyOf) (maxL := 4) (ret := some .int) (by decide) rfl (Nat.le_of_ble_eq_true rfl) ?_
  intro p e s m args below meth c A X hret
  have hin6 : ∀ x ∈ u_ws RX6 TX6 19, x ∈ wsX6_manyOf := fun _ h => List.mem_cons_of_mem _ (List.mem_append_right _ h)
  refine z_lv (lv' := [(0, .ref (q 0)), (1, .int (jI sort))]) [0, 1] rfl ?_
  obtain ⟨n0, n3, n4, n13⟩ := hwf.n
  refine z_aload_n (pc' := 1) X dX6_manyOf_0 rfl 0 rfl rfl ?_
  refine z_callVV (pc' := 4) (S := St) (As := []) (rest := []) X dX6_manyOf_1 rfl (kX6_findSorts l D E q σ   (hwf)) (cwV 0 X.1.2.2.2.2 gX6_manyOf_X6_findSorts rfl rfl rfl (by decide +kernel) ⟨Nat.le_of_ble_eq_true rfl, Nat.le_of_ble_eq_true rfl⟩) 0 rfl rfl rfl rfl (Nat.le_of_ble_eq_true rfl) (fun u1 hp1 => ?_)
  obtain ⟨hq1, hs1⟩ := hp1
  have w1 := hq1.wf hwf
  have e0 : u1 0 0 = σ 0 0 := by rw [hq1.1]
  have e3 : u1 3 0 = σ 3 0 := by rw [hq1.2.2.2.1]
  have e4 : u1 4 0 = σ 4 0 := by rw [hq1.2.2.2.2.1]
  have e13 : u1 13 0 = σ 13 0 := by rw [hq1.2.2.2.2.2.2.1]
  refine z_iconst (pc' := 5) X dX6_manyOf_4 rfl ?_
  refine z_istore_n (pc' := 6) (lv' := [(2, .int (jI 0)), (0, .ref (q 0)), (1, .int (jI sort))]) X dX6_manyOf_5 rfl rfl (by decide) rfl ?_
  refine z_iconst (pc' := 7) X dX6_manyOf_6 rfl ?_
  refine z_istore_n (pc' := 8) (lv' := [(3, .int (jI 0)), (2, .int (jI 0)), (0, .ref (q 0)), (1, .int (jI sort))]) X dX6_manyOf_7 rfl rfl (by decide) rfl ?_
  have lp8 : ∀ (nF : Nat) (k : Int) (n_ : Int) , ((0 ≤ k ∧ k ≤ σ 4 0) ∧ n_ = smI (fun k => if jK (mA σ) (mV σ) (mB σ) (mW σ) k.toNat = sort then 1 else 0) k.toNat ∧ (0 ≤ n_ ∧ n_ ≤ k)) → ((12 - k).toNat : Nat) < nF → J p l e (headSpec wsX6_manyOf ({ frames := 4, cells := 0, slots := 0, locals := 118 } : Room)).room s m args below meth c D A 4 (MQ below (va_Qi (fun r u => ∃ x, r = jI x ∧ (fun (rv : Int) (uu : St) => (rv = smI (fun k => if jK (mA σ) (mV σ) (mB σ) (mW σ) k.toNat = sort then 1 else 0) (σ 4 0).toNat ∧ (0 ≤ rv ∧ rv ≤ 12) ∧ eqM uu σ)) x u) (Bw D (MW E q) A) A) args s 0 0 A) 8 [(3, .int (jI k)), (2, .int (jI n_)), (0, .ref (q 0)), (1, .int (jI sort))] [] (MW E q u1) := by
    intro nF
    induction nF with
    | zero => intro k n_  hI hn; exact absurd hn (Nat.not_lt_zero _)
    | succ nF ih8 =>
      intro k n_  hI hn
      obtain ⟨h1, h2, h3⟩ := hI
      refine z_iload_n (pc' := 9) X dX6_manyOf_8 rfl 0 rfl rfl ?_
      refine z_aload_n (pc' := 10) X dX6_manyOf_9 rfl 2 rfl rfl ?_
      refine z_get (pc' := 13) (C := RX6) (ref := "PivotBeatsModel") (T := TX6) (N := 19) (v := .int (jI (u1 4 0))) X dX6_manyOf_10 rfl hin6 0 rfl rfl 4 (by decide) (by decide +kernel) rfl rfl ?_
      refine z_icmp_ge (tgt := 40) (pc' := 16) X dX6_manyOf_13 (by decide) rfl (by omega) (fun h13 => ?_) (fun h13 => ?_)
      · refine z_iload_n (pc' := 41) X dX6_manyOf_40 rfl 1 rfl rfl ?_
        exact z_iret (post := (fun (rv : Int) (uu : St) => (rv = smI (fun k => if jK (mA σ) (mV σ) (mB σ) (mW σ) k.toNat = sort then 1 else 0) (σ 4 0).toNat ∧ (0 ≤ rv ∧ rv ≤ 12) ∧ eqM uu σ))) X dX6_manyOf_41 hret u1 (⟨by rw [h2, show k = σ 4 0 by omega], by omega, hq1⟩)
      · have hsk := srt_at hq1 hs1 (k := k) (by omega)
        have jr := jK_rng (a := mA σ) (v := mV σ) (b := mB σ) (w := mW σ) k.toNat
        refine z_iload_n (pc' := 17) X dX6_manyOf_16 rfl 1 rfl rfl ?_
        refine z_aload_n (pc' := 18) X dX6_manyOf_17 rfl 2 rfl rfl ?_
        refine z_get (pc' := 21) (C := RX6) (ref := "PivotBeatsModel") (T := TX6) (N := 19) (v := .ref (q 6)) X dX6_manyOf_18 rfl hin6 0 rfl rfl 6 (by decide) (by decide +kernel) rfl rfl ?_
        refine z_iload_n (pc' := 22) X dX6_manyOf_21 rfl 0 rfl rfl ?_
        refine z_iald (pc' := 23) (f := u1 6) (n := 12) X dX6_manyOf_22 rfl 4 rfl (by decide) (by omega) ?_
        refine z_iload_n (pc' := 24) X dX6_manyOf_23 rfl 3 rfl rfl ?_
        refine z_icmp_ne (tgt := 31) (pc' := 27) X dX6_manyOf_24 (by decide) rfl (by omega) (fun h24 => ?_) (fun h24 => ?_)
        · refine z_iconst (pc' := 32) X dX6_manyOf_31 rfl ?_
          refine z_iadd (pc' := 33) X dX6_manyOf_32 rfl ?_
          refine z_istore_n (pc' := 34) (lv' := [(2, .int (jI (n_ + 0))), (3, .int (jI k)), (0, .ref (q 0)), (1, .int (jI sort))]) X dX6_manyOf_33 rfl rfl (by decide) rfl ?_
          refine z_iinc (pc' := 37) (lv' := [(3, .int (jI (k + 1))), (2, .int (jI (n_ + 0))), (0, .ref (q 0)), (1, .int (jI sort))]) X dX6_manyOf_34 rfl 1 rfl (by decide) rfl ?_
          refine z_goto (tgt := 8) X dX6_manyOf_37 (by decide) ?_
          exact ih8 (k + 1) (n_ + 0)  (by first | exact ⟨by omega, by rw [smI_succ _ h1.1, ← h2, if_pos (by rw [← hsk]; exact h24)], by omega⟩ | exact ⟨by omega, by rw [smI_succ _ h1.1, ← h2, if_neg (by rw [← hsk]; exact h24)], by omega⟩) (by omega)
        · refine z_iconst (pc' := 28) X dX6_manyOf_27 rfl ?_
          refine z_goto (tgt := 32) X dX6_manyOf_28 (by decide) ?_
          refine z_iadd (pc' := 33) X dX6_manyOf_32 rfl ?_
          refine z_istore_n (pc' := 34) (lv' := [(2, .int (jI (n_ + 1))), (3, .int (jI k)), (0, .ref (q 0)), (1, .int (jI sort))]) X dX6_manyOf_33 rfl rfl (by decide) rfl ?_
          refine z_iinc (pc' := 37) (lv' := [(3, .int (jI (k + 1))), (2, .int (jI (n_ + 1))), (0, .ref (q 0)), (1, .int (jI sort))]) X dX6_manyOf_34 rfl 1 rfl (by decide) rfl ?_
          refine z_goto (tgt := 8) X dX6_manyOf_37 (by decide) ?_
          exact ih8 (k + 1) (n_ + 1)  (by first | exact ⟨by omega, by rw [smI_succ _ h1.1, ← h2, if_pos (by rw [← hsk]; exact h24)], by omega⟩ | exact ⟨by omega, by rw [smI_succ _ h1.1, ← h2, if_neg (by rw [← hsk]; exact h24)], by omega⟩) (by omega)
  exact lp8 _ 0 0  (⟨by omega, rfl, by omega⟩) (Nat.lt_succ_self _)
set_option maxHeartbeats 4000000 in
set_option maxRecDepth 100000 in
theorem kX6_manyPins (l : Launch) (D : va_G) (E : Nat → Nat) (q : Nat → Nat) (σ : St) (hwf : WfM σ) : CtI l D E yX6_manyPins wsX6_manyPins ({ frames := 2, cells := 0, slots := 0, locals := 43 } : Room) [.ref (q 0)] (MW E q σ) (MW E q) (fun (rv : Int) (uu : St) => σ = uu ∧ (rv = smI (fun s => pnH (σ 13 0) (σ 14) (σ 2 s)) (σ 0 0).toNat ∧ (0 ≤ rv ∧ rv ≤ 7))) := by
  refine mk_I (cc := cX6_manyPins) (maxL := 3) (ret := some .int) (by decide) rfl (Nat.le_of_ble_eq_true rfl) ?_
  intro p e s m args below meth c A X hret
  have hin6 : ∀ x ∈ u_ws RX6 TX6 19, x ∈ wsX6_manyPins := fun _ h => List.mem_cons_of_mem _ (List.mem_append_right _ h)
  refine z_lv (lv' := [(0, .ref (q 0))]) [0] rfl ?_
  obtain ⟨n0, n3, n4, n13⟩ := hwf.n
  refine z_iconst (pc' := 1) X dX6_manyPins_0 rfl ?_
  refine z_istore_n (pc' := 2) (lv' := [(1, .int (jI 0)), (0, .ref (q 0))]) X dX6_manyPins_1 rfl rfl (by decide) rfl ?_
  refine z_iconst (pc' := 3) X dX6_manyPins_2 rfl ?_
  refine z_istore_n (pc' := 4) (lv' := [(2, .int (jI 0)), (1, .int (jI 0)), (0, .ref (q 0))]) X dX6_manyPins_3 rfl rfl (by decide) rfl ?_
  have lp4 : ∀ (nF : Nat) (s_ : Int) (n_ : Int) , ((0 ≤ s_ ∧ s_ ≤ σ 0 0) ∧ n_ = smI (fun s => pnH (σ 13 0) (σ 14) (σ 2 s)) s_.toNat ∧ (0 ≤ n_ ∧ n_ ≤ s_)) → ((7 - s_).toNat : Nat) < nF → J p l e (headSpec wsX6_manyPins ({ frames := 2, cells := 0, slots := 0, locals := 43 } : Room)).room s m args below meth c D A 3 (MQ below (va_Qi (fun r u => ∃ x, r = jI x ∧ (fun (rv : Int) (uu : St) => σ = uu ∧ (rv = smI (fun s => pnH (σ 13 0) (σ 14) (σ 2 s)) (σ 0 0).toNat ∧ (0 ≤ rv ∧ rv ≤ 7))) x u) (Bw D (MW E q) A) A) args s 0 0 A) 4 [(2, .int (jI s_)), (1, .int (jI n_)), (0, .ref (q 0))] [] (MW E q σ) := by
    intro nF
    induction nF with
    | zero => intro s_ n_  hI hn; exact absurd hn (Nat.not_lt_zero _)
    | succ nF ih4 =>
      intro s_ n_  hI hn
      obtain ⟨h1, h2, h3⟩ := hI
      refine z_iload_n (pc' := 5) X dX6_manyPins_4 rfl 0 rfl rfl ?_
      refine z_aload_n (pc' := 6) X dX6_manyPins_5 rfl 2 rfl rfl ?_
      refine z_get (pc' := 9) (C := RX6) (ref := "PivotBeatsModel") (T := TX6) (N := 19) (v := .int (jI (σ 0 0))) X dX6_manyPins_6 rfl hin6 0 rfl rfl 0 (by decide) (by decide +kernel) rfl rfl ?_
      refine z_icmp_ge (tgt := 34) (pc' := 12) X dX6_manyPins_9 (by decide) rfl (by omega) (fun h9 => ?_) (fun h9 => ?_)
      · refine z_iload_n (pc' := 35) X dX6_manyPins_34 rfl 1 rfl rfl ?_
        exact z_iret (post := (fun (rv : Int) (uu : St) => σ = uu ∧ (rv = smI (fun s => pnH (σ 13 0) (σ 14) (σ 2 s)) (σ 0 0).toNat ∧ (0 ≤ rv ∧ rv ≤ 7)))) X dX6_manyPins_35 hret σ (⟨rfl, by rw [h2, show s_ = σ 0 0 by omega], by omega⟩)
      · refine z_iload_n (pc' := 13) X dX6_manyPins_12 rfl 1 rfl rfl ?_
        refine z_aload_n (pc' := 14) X dX6_manyPins_13 rfl 2 rfl rfl ?_
        refine z_iload_n (pc' := 15) X dX6_manyPins_14 rfl 0 rfl rfl ?_
        refine z_callVI (pc' := 18) (S := St) (As := [.int (jI s_)]) (rest := [.int (jI n_)]) X dX6_manyPins_15 rfl (kX6_isPinHeld l D E q σ s_  (hwf) (by omega)) (cwV 1 X.1.2.2.2.2 gX6_manyPins_X6_isPinHeld rfl rfl rfl (by decide +kernel) ⟨Nat.le_of_ble_eq_true rfl, Nat.le_of_ble_eq_true rfl⟩) 0 rfl rfl rfl rfl (Nat.le_of_ble_eq_true rfl) (fun r15 u15 hp15 => ?_)
        obtain ⟨rfl, hp15⟩ := hp15
        refine z_if_eq (tgt := 25) (pc' := 21) X dX6_manyPins_18 (by decide) rfl (by (have := pnH_01 (σ 13 0) (σ 14) (σ 2 s_); omega)) (fun h18 => ?_) (fun h18 => ?_)
        · refine z_iconst (pc' := 26) X dX6_manyPins_25 rfl ?_
          have h01 := pnH_01 (σ 13 0) (σ 14) (σ 2 s_)
          refine z_iadd (pc' := 27) X dX6_manyPins_26 rfl ?_
          refine z_istore_n (pc' := 28) (lv' := [(1, .int (jI (n_ + 0))), (2, .int (jI s_)), (0, .ref (q 0))]) X dX6_manyPins_27 rfl rfl (by decide) rfl ?_
          refine z_iinc (pc' := 31) (lv' := [(2, .int (jI (s_ + 1))), (1, .int (jI (n_ + 0))), (0, .ref (q 0))]) X dX6_manyPins_28 rfl 1 rfl (by decide) rfl ?_
          refine z_goto (tgt := 4) X dX6_manyPins_31 (by decide) ?_
          exact ih4 (s_ + 1) (n_ + 0)  (⟨by omega, by rw [smI_succ _ h1.1, ← h2, ← hp15]; omega, by omega⟩) (by omega)
        · refine z_iconst (pc' := 22) X dX6_manyPins_21 rfl ?_
          refine z_goto (tgt := 26) X dX6_manyPins_22 (by decide) ?_
          have h01 := pnH_01 (σ 13 0) (σ 14) (σ 2 s_)
          refine z_iadd (pc' := 27) X dX6_manyPins_26 rfl ?_
          refine z_istore_n (pc' := 28) (lv' := [(1, .int (jI (n_ + 1))), (2, .int (jI s_)), (0, .ref (q 0))]) X dX6_manyPins_27 rfl rfl (by decide) rfl ?_
          refine z_iinc (pc' := 31) (lv' := [(2, .int (jI (s_ + 1))), (1, .int (jI (n_ + 1))), (0, .ref (q 0))]) X dX6_manyPins_28 rfl 1 rfl (by decide) rfl ?_
          refine z_goto (tgt := 4) X dX6_manyPins_31 (by decide) ?_
          exact ih4 (s_ + 1) (n_ + 1)  (⟨by omega, by rw [smI_succ _ h1.1, ← h2, ← hp15]; omega, by omega⟩) (by omega)
  exact lp4 _ 0 0  (⟨by omega, rfl, by omega⟩) (Nat.lt_succ_self _)
set_option maxHeartbeats 4000000 in
set_option maxRecDepth 100000 in
theorem kX6_many (l : Launch) (D : va_G) (E : Nat → Nat) (q : Nat → Nat) (σ : St) (what : Int) (hwf : WfM σ) (hr : (-2147483648 ≤ what ∧ what < 2147483648)) : CtI l D E yX6_many wsX6_many ({ frames := 5, cells := 0, slots := 0, locals := 141 } : Room) [.ref (q 0), .int (jI what)] (MW E q σ) (MW E q) (fun (rv : Int) (uu : St) => (rv = fMany (σ 0 0) (σ 2) (σ 3 0) (σ 4 0) (mA σ) (mV σ) (mB σ) (mW σ) (σ 13 0) (σ 14) what ∧ eqM uu σ)) := by
  refine mk_I (cc := cX6_many) (maxL := 2) (ret := some .int) (by decide) rfl (Nat.le_of_ble_eq_true rfl) ?_
  intro p e s m args below meth c A X hret
  have hin6 : ∀ x ∈ u_ws RX6 TX6 19, x ∈ wsX6_many := fun _ h => List.mem_cons_of_mem _ (List.mem_append_right _ h)
  refine z_lv (lv' := [(0, .ref (q 0)), (1, .int (jI what))]) [0, 1] rfl ?_
  obtain ⟨n0, n3, n4, n13⟩ := hwf.n
  refine z_iload_n (pc' := 1) X dX6_many_0 rfl 1 rfl rfl ?_
  rcases (show what = 0 ∨ what = 1 ∨ what = 2 ∨ what = 3 ∨ what = 4 ∨ what = 5 ∨ what = 6 ∨ what = 7 ∨ what = 8 ∨ (what < 0 ∨ 8 < what) by omega) with h1 | h1 | h1 | h1 | h1 | h1 | h1 | h1 | h1 | h1
  · refine z_tableIn (tgt := 52) (off := 51) X dX6_many_1 (by decide) (by omega) (by omega) (by rw [h1]; rfl) ?_
    refine z_aload_n (pc' := 53) X dX6_many_52 rfl 0 rfl rfl ?_
    refine z_get (pc' := 56) (C := RX6) (ref := "PivotBeatsModel") (T := TX6) (N := 19) (v := .int (jI (σ 0 0))) X dX6_many_53 rfl hin6 0 rfl rfl 0 (by decide) (by decide +kernel) rfl rfl ?_
    exact z_iret (post := (fun (rv : Int) (uu : St) => (rv = fMany (σ 0 0) (σ 2) (σ 3 0) (σ 4 0) (mA σ) (mV σ) (mB σ) (mW σ) (σ 13 0) (σ 14) what ∧ eqM uu σ))) X dX6_many_56 hret σ (⟨by unfold fMany; rw [if_pos h1], eqM.rf σ⟩)
  · refine z_tableIn (tgt := 57) (off := 56) X dX6_many_1 (by decide) (by omega) (by omega) (by rw [h1]; rfl) ?_
    refine z_aload_n (pc' := 58) X dX6_many_57 rfl 0 rfl rfl ?_
    refine z_get (pc' := 61) (C := RX6) (ref := "PivotBeatsModel") (T := TX6) (N := 19) (v := .int (jI (σ 4 0))) X dX6_many_58 rfl hin6 0 rfl rfl 4 (by decide) (by decide +kernel) rfl rfl ?_
    exact z_iret (post := (fun (rv : Int) (uu : St) => (rv = fMany (σ 0 0) (σ 2) (σ 3 0) (σ 4 0) (mA σ) (mV σ) (mB σ) (mW σ) (σ 13 0) (σ 14) what ∧ eqM uu σ))) X dX6_many_61 hret σ (⟨by unfold fMany; rw [if_neg (show ¬ what = 0 by omega), if_pos h1], eqM.rf σ⟩)
  · refine z_tableIn (tgt := 62) (off := 61) X dX6_many_1 (by decide) (by omega) (by omega) (by rw [h1]; rfl) ?_
    refine z_aload_n (pc' := 63) X dX6_many_62 rfl 0 rfl rfl ?_
    refine z_iload_n (pc' := 64) X dX6_many_63 rfl 1 rfl rfl ?_
    refine z_iconst (pc' := 65) X dX6_many_64 rfl ?_
    refine z_isub (pc' := 66) X dX6_many_65 rfl ?_
    refine z_callVI (pc' := 69) (S := St) (As := [.int (jI (what - 2))]) (rest := []) X dX6_many_66 rfl (kX6_manyOf l D E q σ (what - 2)  (hwf) (by omega)) (cwV 1 X.1.2.2.2.2 gX6_many_X6_manyOf rfl rfl rfl (by decide +kernel) ⟨Nat.le_of_ble_eq_true rfl, Nat.le_of_ble_eq_true rfl⟩) 0 rfl rfl rfl rfl (Nat.le_of_ble_eq_true rfl) (fun r66 u66 hp66 => ?_)
    obtain ⟨er66, eb66, hq66⟩ := hp66
    exact z_iret (post := (fun (rv : Int) (uu : St) => (rv = fMany (σ 0 0) (σ 2) (σ 3 0) (σ 4 0) (mA σ) (mV σ) (mB σ) (mW σ) (σ 13 0) (σ 14) what ∧ eqM uu σ))) X dX6_many_69 hret u66 (⟨by unfold fMany; rw [if_neg (show ¬ what = 0 by omega), if_neg (show ¬ what = 1 by omega), if_pos (show 2 ≤ what ∧ what ≤ 4 by omega), er66], hq66⟩)
  · refine z_tableIn (tgt := 62) (off := 61) X dX6_many_1 (by decide) (by omega) (by omega) (by rw [h1]; rfl) ?_
    refine z_aload_n (pc' := 63) X dX6_many_62 rfl 0 rfl rfl ?_
    refine z_iload_n (pc' := 64) X dX6_many_63 rfl 1 rfl rfl ?_
    refine z_iconst (pc' := 65) X dX6_many_64 rfl ?_
    refine z_isub (pc' := 66) X dX6_many_65 rfl ?_
    refine z_callVI (pc' := 69) (S := St) (As := [.int (jI (what - 2))]) (rest := []) X dX6_many_66 rfl (kX6_manyOf l D E q σ (what - 2)  (hwf) (by omega)) (cwV 1 X.1.2.2.2.2 gX6_many_X6_manyOf rfl rfl rfl (by decide +kernel) ⟨Nat.le_of_ble_eq_true rfl, Nat.le_of_ble_eq_true rfl⟩) 0 rfl rfl rfl rfl (Nat.le_of_ble_eq_true rfl) (fun r66 u66 hp66 => ?_)
    obtain ⟨er66, eb66, hq66⟩ := hp66
    exact z_iret (post := (fun (rv : Int) (uu : St) => (rv = fMany (σ 0 0) (σ 2) (σ 3 0) (σ 4 0) (mA σ) (mV σ) (mB σ) (mW σ) (σ 13 0) (σ 14) what ∧ eqM uu σ))) X dX6_many_69 hret u66 (⟨by unfold fMany; rw [if_neg (show ¬ what = 0 by omega), if_neg (show ¬ what = 1 by omega), if_pos (show 2 ≤ what ∧ what ≤ 4 by omega), er66], hq66⟩)
  · refine z_tableIn (tgt := 62) (off := 61) X dX6_many_1 (by decide) (by omega) (by omega) (by rw [h1]; rfl) ?_
    refine z_aload_n (pc' := 63) X dX6_many_62 rfl 0 rfl rfl ?_
    refine z_iload_n (pc' := 64) X dX6_many_63 rfl 1 rfl rfl ?_
    refine z_iconst (pc' := 65) X dX6_many_64 rfl ?_
    refine z_isub (pc' := 66) X dX6_many_65 rfl ?_
    refine z_callVI (pc' := 69) (S := St) (As := [.int (jI (what - 2))]) (rest := []) X dX6_many_66 rfl (kX6_manyOf l D E q σ (what - 2)  (hwf) (by omega)) (cwV 1 X.1.2.2.2.2 gX6_many_X6_manyOf rfl rfl rfl (by decide +kernel) ⟨Nat.le_of_ble_eq_true rfl, Nat.le_of_ble_eq_true rfl⟩) 0 rfl rfl rfl rfl (Nat.le_of_ble_eq_true rfl) (fun r66 u66 hp66 => ?_)
    obtain ⟨er66, eb66, hq66⟩ := hp66
    exact z_iret (post := (fun (rv : Int) (uu : St) => (rv = fMany (σ 0 0) (σ 2) (σ 3 0) (σ 4 0) (mA σ) (mV σ) (mB σ) (mW σ) (σ 13 0) (σ 14) what ∧ eqM uu σ))) X dX6_many_69 hret u66 (⟨by unfold fMany; rw [if_neg (show ¬ what = 0 by omega), if_neg (show ¬ what = 1 by omega), if_pos (show 2 ≤ what ∧ what ≤ 4 by omega), er66], hq66⟩)
  · refine z_tableIn (tgt := 70) (off := 69) X dX6_many_1 (by decide) (by omega) (by omega) (by rw [h1]; rfl) ?_
    refine z_aload_n (pc' := 71) X dX6_many_70 rfl 0 rfl rfl ?_
    refine z_get (pc' := 74) (C := RX6) (ref := "PivotBeatsModel") (T := TX6) (N := 19) (v := .int (jI (σ 0 0))) X dX6_many_71 rfl hin6 0 rfl rfl 0 (by decide) (by decide +kernel) rfl rfl ?_
    refine z_aload_n (pc' := 75) X dX6_many_74 rfl 0 rfl rfl ?_
    refine z_iconst (pc' := 76) X dX6_many_75 rfl ?_
    refine z_callVI (pc' := 79) (S := St) (As := [.int (jI 0)]) (rest := [.int (jI (σ 0 0))]) X dX6_many_76 rfl (kX6_manyOf l D E q σ 0  (hwf) (by omega)) (cwV 1 X.1.2.2.2.2 gX6_many_X6_manyOf rfl rfl rfl (by decide +kernel) ⟨Nat.le_of_ble_eq_true rfl, Nat.le_of_ble_eq_true rfl⟩) 0 rfl rfl rfl rfl (Nat.le_of_ble_eq_true rfl) (fun r76 u76 hp76 => ?_)
    obtain ⟨er76, eb76, hq76⟩ := hp76
    refine z_isub (pc' := 80) X dX6_many_79 rfl ?_
    exact z_iret (post := (fun (rv : Int) (uu : St) => (rv = fMany (σ 0 0) (σ 2) (σ 3 0) (σ 4 0) (mA σ) (mV σ) (mB σ) (mW σ) (σ 13 0) (σ 14) what ∧ eqM uu σ))) X dX6_many_80 hret u76 (⟨by unfold fMany; rw [if_neg (show ¬ what = 0 by omega), if_neg (show ¬ what = 1 by omega), if_neg (show ¬ (2 ≤ what ∧ what ≤ 4) by omega), if_pos h1, er76], hq76⟩)
  · refine z_tableIn (tgt := 81) (off := 80) X dX6_many_1 (by decide) (by omega) (by omega) (by rw [h1]; rfl) ?_
    refine z_aload_n (pc' := 82) X dX6_many_81 rfl 0 rfl rfl ?_
    refine z_get (pc' := 85) (C := RX6) (ref := "PivotBeatsModel") (T := TX6) (N := 19) (v := .int (jI (σ 13 0))) X dX6_many_82 rfl hin6 0 rfl rfl 13 (by decide) (by decide +kernel) rfl rfl ?_
    exact z_iret (post := (fun (rv : Int) (uu : St) => (rv = fMany (σ 0 0) (σ 2) (σ 3 0) (σ 4 0) (mA σ) (mV σ) (mB σ) (mW σ) (σ 13 0) (σ 14) what ∧ eqM uu σ))) X dX6_many_85 hret σ (⟨by unfold fMany; rw [if_neg (show ¬ what = 0 by omega), if_neg (show ¬ what = 1 by omega), if_neg (show ¬ (2 ≤ what ∧ what ≤ 4) by omega), if_neg (show ¬ what = 5 by omega), if_pos h1], eqM.rf σ⟩)
  · refine z_tableIn (tgt := 86) (off := 85) X dX6_many_1 (by decide) (by omega) (by omega) (by rw [h1]; rfl) ?_
    refine z_aload_n (pc' := 87) X dX6_many_86 rfl 0 rfl rfl ?_
    refine z_callVI (pc' := 90) (S := St) (As := []) (rest := []) X dX6_many_87 rfl (kX6_manyPins l D E q σ   (hwf)) (cwV 0 X.1.2.2.2.2 gX6_many_X6_manyPins rfl rfl rfl (by decide +kernel) ⟨Nat.le_of_ble_eq_true rfl, Nat.le_of_ble_eq_true rfl⟩) 0 rfl rfl rfl rfl (Nat.le_of_ble_eq_true rfl) (fun r87 u87 hp87 => ?_)
    obtain ⟨rfl, hp87⟩ := hp87
    obtain ⟨er87, eb87⟩ := hp87
    exact z_iret (post := (fun (rv : Int) (uu : St) => (rv = fMany (σ 0 0) (σ 2) (σ 3 0) (σ 4 0) (mA σ) (mV σ) (mB σ) (mW σ) (σ 13 0) (σ 14) what ∧ eqM uu σ))) X dX6_many_90 hret σ (⟨by unfold fMany; rw [if_neg (show ¬ what = 0 by omega), if_neg (show ¬ what = 1 by omega), if_neg (show ¬ (2 ≤ what ∧ what ≤ 4) by omega), if_neg (show ¬ what = 5 by omega), if_neg (show ¬ what = 6 by omega), if_pos h1, er87], eqM.rf σ⟩)
  · refine z_tableIn (tgt := 91) (off := 90) X dX6_many_1 (by decide) (by omega) (by omega) (by rw [h1]; rfl) ?_
    refine z_aload_n (pc' := 92) X dX6_many_91 rfl 0 rfl rfl ?_
    refine z_get (pc' := 95) (C := RX6) (ref := "PivotBeatsModel") (T := TX6) (N := 19) (v := .int (jI (σ 3 0))) X dX6_many_92 rfl hin6 0 rfl rfl 3 (by decide) (by decide +kernel) rfl rfl ?_
    exact z_iret (post := (fun (rv : Int) (uu : St) => (rv = fMany (σ 0 0) (σ 2) (σ 3 0) (σ 4 0) (mA σ) (mV σ) (mB σ) (mW σ) (σ 13 0) (σ 14) what ∧ eqM uu σ))) X dX6_many_95 hret σ (⟨by unfold fMany; rw [if_neg (show ¬ what = 0 by omega), if_neg (show ¬ what = 1 by omega), if_neg (show ¬ (2 ≤ what ∧ what ≤ 4) by omega), if_neg (show ¬ what = 5 by omega), if_neg (show ¬ what = 6 by omega), if_neg (show ¬ what = 7 by omega), if_pos h1], eqM.rf σ⟩)
  · refine z_tableOut (tgt := 96) X dX6_many_1 (by decide) (by omega) h1 ?_
    refine z_bipush (pc' := 98) X dX6_many_96 rfl rfl ?_
    exact z_iret (post := (fun (rv : Int) (uu : St) => (rv = fMany (σ 0 0) (σ 2) (σ 3 0) (σ 4 0) (mA σ) (mV σ) (mB σ) (mW σ) (σ 13 0) (σ 14) what ∧ eqM uu σ))) X dX6_many_98 hret σ (⟨by unfold fMany; rw [if_neg (show ¬ what = 0 by omega), if_neg (show ¬ what = 1 by omega), if_neg (show ¬ (2 ≤ what ∧ what ≤ 4) by omega), if_neg (show ¬ what = 5 by omega), if_neg (show ¬ what = 6 by omega), if_neg (show ¬ what = 7 by omega), if_neg (show ¬ what = 8 by omega)], eqM.rf σ⟩)
set_option maxHeartbeats 4000000 in
set_option maxRecDepth 100000 in
theorem kX6_pivot (l : Launch) (D : va_G) (E : Nat → Nat) (q : Nat → Nat) (σ : St) (s_ q_ k : Int) (hwf : WfM σ) (hr : (-2147483648 ≤ s_ ∧ s_ < 2147483648) ∧ (-2147483648 ≤ q_ ∧ q_ < 2147483648) ∧ (-2147483648 ≤ k ∧ k < 2147483648)) : CtI l D E yX6_pivot wsX6_pivot ({ frames := 5, cells := 0, slots := 0, locals := 139 } : Room) [.ref (q 0), .int (jI s_), .int (jI q_), .int (jI k)] (MW E q σ) (MW E q) (fun (rv : Int) (uu : St) => (fPivot (σ 0 0) (σ 3 0) (σ 4 0) (mA σ) (mV σ) (mB σ) (mW σ) s_ q_ k rv ∧ eqM uu σ)) := by
  refine mk_I (cc := cX6_pivot) (maxL := 8) (ret := some .int) (by decide) rfl (Nat.le_of_ble_eq_true rfl) ?_
  intro p e s m args below meth c A X hret
  have hin6 : ∀ x ∈ u_ws RX6 TX6 19, x ∈ wsX6_pivot := fun _ h => List.mem_cons_of_mem _ (List.mem_append_right _ h)
  refine z_lv (lv' := [(0, .ref (q 0)), (1, .int (jI s_)), (2, .int (jI q_)), (3, .int (jI k))]) [0, 1, 2, 3] rfl ?_
  obtain ⟨n0, n3, n4, n13⟩ := hwf.n
  refine z_aload_n (pc' := 1) X dX6_pivot_0 rfl 0 rfl rfl ?_
  refine z_iload_n (pc' := 2) X dX6_pivot_1 rfl 1 rfl rfl ?_
  refine z_callVI (pc' := 5) (S := St) (As := [.int (jI s_)]) (rest := []) X dX6_pivot_2 rfl (kX6_isSection l D E q σ s_  (hwf) (by omega)) (cwV 1 X.1.2.2.2.2 gX6_pivot_X6_isSection rfl rfl rfl (by decide +kernel) ⟨Nat.le_of_ble_eq_true rfl, Nat.le_of_ble_eq_true rfl⟩) 0 rfl rfl rfl rfl (Nat.le_of_ble_eq_true rfl) (fun r2 u2 hp2 => ?_)
  obtain ⟨rfl, hp2⟩ := hp2
  rcases hp2 with ⟨rfl, hp2⟩ | ⟨rfl, hp2⟩
  · refine z_if_ne (tgt := 10) (pc' := 8) X dX6_pivot_5 (by decide) rfl (by omega) (fun _ => ?_) (fun h => absurd h (by decide))
    refine z_iload_n (pc' := 11) X dX6_pivot_10 rfl 2 rfl rfl ?_
    refine z_bipush (pc' := 13) X dX6_pivot_11 rfl rfl ?_
    refine z_sipush (pc' := 16) X dX6_pivot_13 rfl rfl ?_
    refine z_callPI (pc' := 19) (S := Unit) (As := [.int (jI q_), .int (jI 20), .int (jI 400)]) (rest := []) X dX6_pivot_16 rfl (kX6_isIn l D E q_ 20 400  (by omega)) (va_cwS 3 X.1.2.2.2.2 gX6_pivot_X6_isIn rfl rfl rfl (by decide +kernel) ⟨Nat.le_of_ble_eq_true rfl, Nat.le_of_ble_eq_true rfl⟩) rfl rfl (Nat.le_of_ble_eq_true rfl) (fun r16 u16 hp16 => ?_)
    skip
    rcases hp16 with ⟨rfl, hp16⟩ | ⟨rfl, hp16⟩
    · refine z_if_eq (tgt := 33) (pc' := 22) X dX6_pivot_19 (by decide) rfl (by omega) (fun h => absurd h (by decide)) (fun _ => ?_)
      refine z_iload_n (pc' := 23) X dX6_pivot_22 rfl 3 rfl rfl ?_
      refine z_iconst (pc' := 24) X dX6_pivot_23 rfl ?_
      refine z_sipush (pc' := 27) X dX6_pivot_24 rfl rfl ?_
      refine z_callPI (pc' := 30) (S := Unit) (As := [.int (jI k), .int (jI (-1)), .int (jI 399)]) (rest := []) X dX6_pivot_27 rfl (kX6_isIn l D E k (-1) 399  (by omega)) (va_cwS 3 X.1.2.2.2.2 gX6_pivot_X6_isIn rfl rfl rfl (by decide +kernel) ⟨Nat.le_of_ble_eq_true rfl, Nat.le_of_ble_eq_true rfl⟩) rfl rfl (Nat.le_of_ble_eq_true rfl) (fun r27 u27 hp27 => ?_)
      skip
      rcases hp27 with ⟨rfl, hp27⟩ | ⟨rfl, hp27⟩
      · refine z_if_ne (tgt := 36) (pc' := 33) X dX6_pivot_30 (by decide) rfl (by omega) (fun _ => ?_) (fun h => absurd h (by decide))
        refine z_aload_n (pc' := 37) X dX6_pivot_36 rfl 0 rfl rfl ?_
        refine z_iconst (pc' := 38) X dX6_pivot_37 rfl ?_
        refine z_callVV (pc' := 41) (S := St) (As := [.int (jI 0)]) (rest := []) X dX6_pivot_38 rfl (kX6_spreadAll l D E q σ 0  (hwf) (by omega)) (cwV 1 X.1.2.2.2.2 gX6_pivot_X6_spreadAll rfl rfl rfl (by decide +kernel) ⟨Nat.le_of_ble_eq_true rfl, Nat.le_of_ble_eq_true rfl⟩) 0 rfl rfl rfl rfl (Nat.le_of_ble_eq_true rfl) (fun u38 hp38 => ?_)
        obtain ⟨hq38, hs38, hd38⟩ := hp38
        have w38 := hq38.wf hwf
        have e0 : u38 0 0 = σ 0 0 := by rw [hq38.1]
        have e3 : u38 3 0 = σ 3 0 := by rw [hq38.2.2.2.1]
        have e4 : u38 4 0 = σ 4 0 := by rw [hq38.2.2.2.2.1]
        have e13 : u38 13 0 = σ 13 0 := by rw [hq38.2.2.2.2.2.2.1]
        have j := sp_get hwf hq38 hd38 (by omega) (x := s_) (by omega)
        refine z_aload_n (pc' := 42) X dX6_pivot_41 rfl 0 rfl rfl ?_
        refine z_get (pc' := 45) (C := RX6) (ref := "PivotBeatsModel") (T := TX6) (N := 19) (v := .ref (q 7)) X dX6_pivot_42 rfl hin6 0 rfl rfl 7 (by decide) (by decide +kernel) rfl rfl ?_
        refine z_iload_n (pc' := 46) X dX6_pivot_45 rfl 1 rfl rfl ?_
        refine z_lald (pc' := 47) (f := u38 7) (n := 7) X dX6_pivot_46 rfl 5 rfl (by decide) (by omega) ?_
        refine z_lconst (pc' := 48) (x := 0) X dX6_pivot_47 rfl rfl ?_
        refine z_lcmp_ne (tgt := 55) (pc' := 52) X dX6_pivot_48 (pc1 := 49) rfl dX6_pivot_49 (by decide) rfl (by (have := j.1; omega)) (fun h48 => ?_) (fun h48 => ?_)
        · obtain ⟨jj, j7, j8, j9, jb, jc, jd⟩ := j.2.1 h48
          have hpr := mul_bd (a := u38 3 0) (b := u38 7 s_) (A := 400) (B := 68719476736) (by omega) (by omega)
          have hpq := mul_bd (a := q_) (b := u38 8 s_) (A := 400) (B := 68719476736) (by omega) (by omega)
          refine z_iconst (pc' := 56) X dX6_pivot_55 rfl ?_
          refine z_istore (pc' := 58) (lv' := [(4, .int (jI 0)), (0, .ref (q 0)), (1, .int (jI s_)), (2, .int (jI q_)), (3, .int (jI k))]) X dX6_pivot_56 rfl (by decide) rfl ?_
          refine z_iconst (pc' := 59) X dX6_pivot_58 rfl ?_
          refine z_istore (pc' := 61) (lv' := [(5, .int (jI 0)), (4, .int (jI 0)), (0, .ref (q 0)), (1, .int (jI s_)), (2, .int (jI q_)), (3, .int (jI k))]) X dX6_pivot_59 rfl (by decide) rfl ?_
          have lp61 : ∀ (nF : Nat) (x : Int) (n_ : Int) , ((0 ≤ x ∧ x ≤ 400) ∧ n_ = smI (pvM (σ 3 0) (σ 4 0) (mA σ) (mV σ) (mB σ) (mW σ) s_ q_) x.toNat ∧ (0 ≤ n_ ∧ n_ ≤ x) ∧ (n_ ≤ k ∨ k = -1)) → ((400 - x).toNat : Nat) < nF → J p l e (headSpec wsX6_pivot ({ frames := 5, cells := 0, slots := 0, locals := 139 } : Room)).room s m args below meth c D A 8 (MQ below (va_Qi (fun r u => ∃ x, r = jI x ∧ (fun (rv : Int) (uu : St) => (fPivot (σ 0 0) (σ 3 0) (σ 4 0) (mA σ) (mV σ) (mB σ) (mW σ) s_ q_ k rv ∧ eqM uu σ)) x u) (Bw D (MW E q) A) A) args s 0 0 A) 61 [(5, .int (jI x)), (4, .int (jI n_)), (0, .ref (q 0)), (1, .int (jI s_)), (2, .int (jI q_)), (3, .int (jI k))] [] (MW E q u38) := by
            intro nF
            induction nF with
            | zero => intro x n_  hI hn; exact absurd hn (Nat.not_lt_zero _)
            | succ nF ih61 =>
              intro x n_  hI hn
              obtain ⟨h1, h2, h3, h4⟩ := hI
              refine z_iload (pc' := 63) X dX6_pivot_61 rfl 0 rfl ?_
              refine z_sipush (pc' := 66) X dX6_pivot_63 rfl rfl ?_
              refine z_icmp_ge (tgt := 146) (pc' := 69) X dX6_pivot_66 (by decide) rfl (by omega) (fun h66 => ?_) (fun h66 => ?_)
              · refine z_iload_n (pc' := 147) X dX6_pivot_146 rfl 5 rfl rfl ?_
                refine z_if_ge (tgt := 155) (pc' := 150) X dX6_pivot_147 (by decide) rfl (by omega) (fun h147 => ?_) (fun h147 => ?_)
                · refine z_bipush (pc' := 157) X dX6_pivot_155 rfl rfl ?_
                  exact z_iret (post := (fun (rv : Int) (uu : St) => (fPivot (σ 0 0) (σ 3 0) (σ 4 0) (mA σ) (mV σ) (mB σ) (mW σ) s_ q_ k rv ∧ eqM uu σ))) X dX6_pivot_157 hret u38 (by first | exact ⟨Or.inr (Or.inr (Or.inr ⟨hp2, by omega, jj, Or.inl ⟨by omega, by rw [h2, show x = 400 by omega]; rfl⟩⟩)), hq38⟩ | exact ⟨Or.inr (Or.inr (Or.inr ⟨hp2, by omega, jj, Or.inr ⟨by omega, Or.inr ⟨pv_end h2 (by omega) (by omega), rfl⟩⟩⟩)), hq38⟩)
                · refine z_iload (pc' := 152) X dX6_pivot_150 rfl 1 rfl ?_
                  refine z_goto (tgt := 157) X dX6_pivot_152 (by decide) ?_
                  exact z_iret (post := (fun (rv : Int) (uu : St) => (fPivot (σ 0 0) (σ 3 0) (σ 4 0) (mA σ) (mV σ) (mB σ) (mW σ) s_ q_ k rv ∧ eqM uu σ))) X dX6_pivot_157 hret u38 (by first | exact ⟨Or.inr (Or.inr (Or.inr ⟨hp2, by omega, jj, Or.inl ⟨by omega, by rw [h2, show x = 400 by omega]; rfl⟩⟩)), hq38⟩ | exact ⟨Or.inr (Or.inr (Or.inr ⟨hp2, by omega, jj, Or.inr ⟨by omega, Or.inr ⟨pv_end h2 (by omega) (by omega), rfl⟩⟩⟩)), hq38⟩)
              · have dv : 0 ≤ x / 20 ∧ x / 20 < 20 := by omega
                have md : 0 ≤ x % 20 ∧ x % 20 < 20 := by omega
                have ta := tk_rng dv
                have tb := tk_rng md
                have m1 := mul_bd (a := u38 3 0 * u38 7 s_) (b := tk (x % 20)) (A := 27487790694400) (B := 144) (by omega) (by omega)
                have m2 := mul_bd (a := q_ * u38 8 s_) (b := tk (x / 20)) (A := 27487790694400) (B := 144) (by omega) (by omega)
                have pe := pv_eq hwf hq38 j7 j8 e3 (q := q_) (x := x)
                refine z_iload (pc' := 71) X dX6_pivot_69 rfl 0 rfl ?_
                refine z_bipush (pc' := 73) X dX6_pivot_71 rfl rfl ?_
                refine z_idiv (pc' := 74) X dX6_pivot_73 rfl (by omega) ?_
                refine z_istore (pc' := 76) (lv' := [(6, .int (jI (x / 20))), (5, .int (jI x)), (4, .int (jI n_)), (0, .ref (q 0)), (1, .int (jI s_)), (2, .int (jI q_)), (3, .int (jI k))]) X dX6_pivot_74 rfl (by decide) rfl ?_
                refine z_iload (pc' := 78) X dX6_pivot_76 rfl 1 rfl ?_
                refine z_bipush (pc' := 80) X dX6_pivot_78 rfl rfl ?_
                refine z_irem (pc' := 81) X dX6_pivot_80 rfl (by omega) ?_
                refine z_istore (pc' := 83) (lv' := [(7, .int (jI (x % 20))), (6, .int (jI (x / 20))), (5, .int (jI x)), (4, .int (jI n_)), (0, .ref (q 0)), (1, .int (jI s_)), (2, .int (jI q_)), (3, .int (jI k))]) X dX6_pivot_81 rfl (by decide) rfl ?_
                refine z_aload_n (pc' := 84) X dX6_pivot_83 rfl 4 rfl rfl ?_
                refine z_get (pc' := 87) (C := RX6) (ref := "PivotBeatsModel") (T := TX6) (N := 19) (v := .int (jI (u38 3 0))) X dX6_pivot_84 rfl hin6 0 rfl rfl 3 (by decide) (by decide +kernel) rfl rfl ?_
                refine z_i2l (pc' := 88) X dX6_pivot_87 rfl (by omega) ?_
                refine z_aload_n (pc' := 89) X dX6_pivot_88 rfl 4 rfl rfl ?_
                refine z_get (pc' := 92) (C := RX6) (ref := "PivotBeatsModel") (T := TX6) (N := 19) (v := .ref (q 7)) X dX6_pivot_89 rfl hin6 0 rfl rfl 7 (by decide) (by decide +kernel) rfl rfl ?_
                refine z_iload_n (pc' := 93) X dX6_pivot_92 rfl 5 rfl rfl ?_
                refine z_lald (pc' := 94) (f := u38 7) (n := 7) X dX6_pivot_93 rfl 5 rfl (by decide) (by omega) ?_
                refine z_lmul (pc' := 95) X dX6_pivot_94 rfl ?_
                refine z_iload (pc' := 97) X dX6_pivot_95 rfl 0 rfl ?_
                refine z_callPI (pc' := 100) (S := Unit) (As := [.int (jI (x % 20))]) (rest := [.long (jL ((u38 3 0) * (u38 7 s_)))]) X dX6_pivot_97 rfl (kX6_ticksOf l D E (x % 20)  (by omega)) (va_cwS 1 X.1.2.2.2.2 gX6_pivot_X6_ticksOf rfl rfl rfl (by decide +kernel) ⟨Nat.le_of_ble_eq_true rfl, Nat.le_of_ble_eq_true rfl⟩) rfl rfl (Nat.le_of_ble_eq_true rfl) (fun r97 u97 hp97 => ?_)
                replace hp97 := hp97.symm; subst hp97
                refine z_i2l (pc' := 101) X dX6_pivot_100 rfl (by omega) ?_
                refine z_lmul (pc' := 102) X dX6_pivot_101 rfl ?_
                refine z_iload_n (pc' := 103) X dX6_pivot_102 rfl 6 rfl rfl ?_
                refine z_i2l (pc' := 104) X dX6_pivot_103 rfl (by omega) ?_
                refine z_aload_n (pc' := 105) X dX6_pivot_104 rfl 4 rfl rfl ?_
                refine z_get (pc' := 108) (C := RX6) (ref := "PivotBeatsModel") (T := TX6) (N := 19) (v := .ref (q 8)) X dX6_pivot_105 rfl hin6 0 rfl rfl 8 (by decide) (by decide +kernel) rfl rfl ?_
                refine z_iload_n (pc' := 109) X dX6_pivot_108 rfl 5 rfl rfl ?_
                refine z_lald (pc' := 110) (f := u38 8) (n := 7) X dX6_pivot_109 rfl 6 rfl (by decide) (by omega) ?_
                refine z_lmul (pc' := 111) X dX6_pivot_110 rfl ?_
                refine z_iload (pc' := 113) X dX6_pivot_111 rfl 1 rfl ?_
                refine z_callPI (pc' := 116) (S := Unit) (As := [.int (jI (x / 20))]) (rest := [.long (jL (q_ * (u38 8 s_))), .long (jL (((u38 3 0) * (u38 7 s_)) * (tk (x % 20))))]) X dX6_pivot_113 rfl (kX6_ticksOf l D E (x / 20)  (by omega)) (va_cwS 1 X.1.2.2.2.2 gX6_pivot_X6_ticksOf rfl rfl rfl (by decide +kernel) ⟨Nat.le_of_ble_eq_true rfl, Nat.le_of_ble_eq_true rfl⟩) rfl rfl (Nat.le_of_ble_eq_true rfl) (fun r113 u113 hp113 => ?_)
                replace hp113 := hp113.symm; subst hp113
                refine z_i2l (pc' := 117) X dX6_pivot_116 rfl (by omega) ?_
                refine z_lmul (pc' := 118) X dX6_pivot_117 rfl ?_
                refine z_lcmp_ne (tgt := 140) (pc' := 122) X dX6_pivot_118 (pc1 := 119) rfl dX6_pivot_119 (by decide) rfl (by omega) (fun h118 => ?_) (fun h118 => ?_)
                · refine z_iinc (pc' := 143) (lv' := [(5, .int (jI (x + 1))), (7, .int (jI (x % 20))), (6, .int (jI (x / 20))), (4, .int (jI n_)), (0, .ref (q 0)), (1, .int (jI s_)), (2, .int (jI q_)), (3, .int (jI k))]) X dX6_pivot_140 rfl 2 rfl (by decide) rfl ?_
                  refine z_goto (tgt := 61) X dX6_pivot_143 (by decide) ?_
                  refine z_lv (lv' := [(5, .int (jI (x + 1))), (4, .int (jI n_)), (0, .ref (q 0)), (1, .int (jI s_)), (2, .int (jI q_)), (3, .int (jI k))]) [0, 3, 4, 5, 6, 7] rfl ?_
                  exact ih61 (x + 1) n_  (by first | exact ⟨by omega, by rw [smI_succ _ h1.1, ← h2, pe.1 h118], by omega, by omega⟩ | exact ⟨by omega, by rw [smI_succ _ h1.1, ← h2, pe.2 h118, Int.add_zero], by omega, by omega⟩) (by omega)
                · refine z_iload (pc' := 124) X dX6_pivot_122 rfl 3 rfl ?_
                  refine z_iload_n (pc' := 125) X dX6_pivot_124 rfl 7 rfl rfl ?_
                  refine z_icmp_ne (tgt := 137) (pc' := 128) X dX6_pivot_125 (by decide) rfl (by omega) (fun h125 => ?_) (fun h125 => ?_)
                  · refine z_iinc (pc' := 140) (lv' := [(4, .int (jI (n_ + 1))), (7, .int (jI (x % 20))), (6, .int (jI (x / 20))), (5, .int (jI x)), (0, .ref (q 0)), (1, .int (jI s_)), (2, .int (jI q_)), (3, .int (jI k))]) X dX6_pivot_137 rfl 3 rfl (by decide) rfl ?_
                    refine z_iinc (pc' := 143) (lv' := [(5, .int (jI (x + 1))), (4, .int (jI (n_ + 1))), (7, .int (jI (x % 20))), (6, .int (jI (x / 20))), (0, .ref (q 0)), (1, .int (jI s_)), (2, .int (jI q_)), (3, .int (jI k))]) X dX6_pivot_140 rfl 3 rfl (by decide) rfl ?_
                    refine z_goto (tgt := 61) X dX6_pivot_143 (by decide) ?_
                    refine z_lv (lv' := [(5, .int (jI (x + 1))), (4, .int (jI (n_ + 1))), (0, .ref (q 0)), (1, .int (jI s_)), (2, .int (jI q_)), (3, .int (jI k))]) [0, 1, 4, 5, 6, 7] rfl ?_
                    exact ih61 (x + 1) (n_ + 1)  (by first | exact ⟨by omega, by rw [smI_succ _ h1.1, ← h2, pe.1 h118], by omega, by omega⟩ | exact ⟨by omega, by rw [smI_succ _ h1.1, ← h2, pe.2 h118, Int.add_zero], by omega, by omega⟩) (by omega)
                  · refine z_bipush (pc' := 130) X dX6_pivot_128 rfl rfl ?_
                    refine z_iload (pc' := 132) X dX6_pivot_130 rfl 1 rfl ?_
                    refine z_imul (pc' := 133) X dX6_pivot_132 rfl ?_
                    refine z_iload (pc' := 135) X dX6_pivot_133 rfl 0 rfl ?_
                    refine z_iadd (pc' := 136) X dX6_pivot_135 rfl ?_
                    exact z_iret (post := (fun (rv : Int) (uu : St) => (fPivot (σ 0 0) (σ 3 0) (σ 4 0) (mA σ) (mV σ) (mB σ) (mW σ) s_ q_ k rv ∧ eqM uu σ))) X dX6_pivot_136 hret u38 (⟨Or.inr (Or.inr (Or.inr ⟨hp2, by omega, jj, Or.inr ⟨by omega, Or.inl ⟨x, by omega, pe.1 h118, by omega, rfl⟩⟩⟩)), hq38⟩)
          exact lp61 _ 0 0  (⟨by omega, rfl, by omega, by omega⟩) (Nat.lt_succ_self _)
        · refine z_bipush (pc' := 54) X dX6_pivot_52 rfl rfl ?_
          exact z_iret (post := (fun (rv : Int) (uu : St) => (fPivot (σ 0 0) (σ 3 0) (σ 4 0) (mA σ) (mV σ) (mB σ) (mW σ) s_ q_ k rv ∧ eqM uu σ))) X dX6_pivot_54 hret u38 (⟨Or.inr (Or.inr (Or.inl ⟨hp2, by omega, j.2.2 h48, rfl⟩)), hq38⟩)
      · refine z_if_ne (tgt := 36) (pc' := 33) X dX6_pivot_30 (by decide) rfl (by omega) (fun h => absurd h (by decide)) (fun _ => ?_)
        refine z_bipush (pc' := 35) X dX6_pivot_33 rfl rfl ?_
        exact z_iret (post := (fun (rv : Int) (uu : St) => (fPivot (σ 0 0) (σ 3 0) (σ 4 0) (mA σ) (mV σ) (mB σ) (mW σ) s_ q_ k rv ∧ eqM uu σ))) X dX6_pivot_35 hret σ (⟨Or.inr (Or.inl ⟨hp2, by omega, rfl⟩), eqM.rf σ⟩)
    · refine z_if_eq (tgt := 33) (pc' := 22) X dX6_pivot_19 (by decide) rfl (by omega) (fun _ => ?_) (fun h => absurd h (by decide))
      refine z_bipush (pc' := 35) X dX6_pivot_33 rfl rfl ?_
      exact z_iret (post := (fun (rv : Int) (uu : St) => (fPivot (σ 0 0) (σ 3 0) (σ 4 0) (mA σ) (mV σ) (mB σ) (mW σ) s_ q_ k rv ∧ eqM uu σ))) X dX6_pivot_35 hret σ (⟨Or.inr (Or.inl ⟨hp2, by omega, rfl⟩), eqM.rf σ⟩)
  · refine z_if_ne (tgt := 10) (pc' := 8) X dX6_pivot_5 (by decide) rfl (by omega) (fun h => absurd h (by decide)) (fun _ => ?_)
    refine z_iconst (pc' := 9) X dX6_pivot_8 rfl ?_
    exact z_iret (post := (fun (rv : Int) (uu : St) => (fPivot (σ 0 0) (σ 3 0) (σ 4 0) (mA σ) (mV σ) (mB σ) (mW σ) s_ q_ k rv ∧ eqM uu σ))) X dX6_pivot_9 hret σ (⟨Or.inl ⟨hp2, rfl⟩, eqM.rf σ⟩)
