theorem mul_bd {a b A B : Int} (ha : 0 ≤ a ∧ a ≤ A) (hb : 0 ≤ b ∧ b ≤ B) : 0 ≤ a * b ∧ a * b ≤ A * B := ⟨Int.mul_nonneg ha.1 hb.1, Int.mul_le_mul ha.2 hb.2 hb.1 (by omega)⟩
theorem mul_bd1 {a b A B : Int} (ha : 0 < a ∧ a ≤ A) (hb : 0 < b ∧ b ≤ B) : 0 < a * b ∧ a * b ≤ A * B := ⟨Int.mul_pos ha.1 hb.1, Int.mul_le_mul ha.2 hb.2 (by omega) (by omega)⟩
theorem pnH_01 (nM : Int) (mk : Int → Int) (p : Int) : pnH nM mk p = 0 ∨ pnH nM mk p = 1 := by
  unfold pnH
  repeat' split
  all_goals omega
/-- behind spreadAll(f): what stands of a SECTION -/
theorem sp_get {σ u : St} {f : Int} (hwf : WfM σ) (hq : eqM u σ) (hd : SPD u (σ 4 0) f) (hf : 0 ≤ f ∧ f < 7) {x : Int} (hx : 0 ≤ x ∧ x < 7) : (0 ≤ u 7 x ∧ u 7 x ≤ 68719476736) ∧ (¬ u 7 x = 0 → jS (mA σ) (mV σ) (mB σ) (mW σ) (σ 4 0).toNat 0 x = jS (mA σ) (mV σ) (mB σ) (mW σ) (σ 4 0).toNat 0 f ∧ u 7 x = pU (eX (σ 4 0) (mA σ) (mV σ) (mB σ) (mW σ) f x) (eY (σ 4 0) (mA σ) (mV σ) (mB σ) (mW σ) f x) ∧ u 8 x = pU (-(eX (σ 4 0) (mA σ) (mV σ) (mB σ) (mW σ) f x)) (-(eY (σ 4 0) (mA σ) (mV σ) (mB σ) (mW σ) f x)) ∧ u 9 x = iXor (jS (mA σ) (mV σ) (mB σ) (mW σ) (σ 4 0).toNat 3 f) (jS (mA σ) (mV σ) (mB σ) (mW σ) (σ 4 0).toNat 3 x) ∧ (1 ≤ u 7 x ∧ u 7 x ≤ 68719476736) ∧ (1 ≤ u 8 x ∧ u 8 x ≤ 68719476736) ∧ (0 ≤ u 9 x ∧ u 9 x < 4096)) ∧ (u 7 x = 0 → ¬ jS (mA σ) (mV σ) (mB σ) (mW σ) (σ 4 0).toNat 0 x = jS (mA σ) (mV σ) (mB σ) (mW σ) (σ 4 0).toNat 0 f) := by
  obtain ⟨t1, t2, t3, t4, -⟩ := hq.ties
  obtain ⟨d1, d2⟩ := hd
  rw [t1, t2, t3, t4] at d1 d2
  have n4 := hwf.n.2.2.1
  have d2' : SPc (mA σ) (mV σ) (mB σ) (mW σ) u ((σ 4 0).toNat : Int) := by rw [show (((σ 4 0).toNat : Nat) : Int) = σ 4 0 by omega]; exact d2
  have hv := SPI_v d1 hwf.tok (Nat.le_refl _) hf hx
  have hm := SP_met d1 d2' hx
  refine ⟨hv.1, fun q => ?_, fun q => fun z => hm.mpr z q⟩
  obtain ⟨x0, x1, x2, x3⟩ := (d1.2.1 x hx).resolve_left q
  have p := (pow_le2 (n := (σ 4 0).toNat) (k := 12) (by omega)).2
  have p12 : (2 : Int) ^ 12 = 4096 := by decide
  have hv2 := hv.2 q
  exact ⟨x0, x1, x2, x3, by omega, by omega, by omega⟩
theorem os_met {σ u : St} {s : Int} (hwf : WfM σ) (hq : eqM u σ) (hd : SPD u (σ 4 0) s) (hs : 0 ≤ s ∧ s < 7) : u 10 0 = sz7 (jS (mA σ) (mV σ) (mB σ) (mW σ) (σ 4 0).toNat 0) (jS (mA σ) (mV σ) (mB σ) (mW σ) (σ 4 0).toNat 0 s) := by
  rw [← hd.1.2.2.2.1]
  refine sz7_ext (fun x hx => ?_)
  have := sp_get hwf hq hd hs hx
  rw [vz_1]
  exact ⟨fun q => (this.2.1 q).1, fun q z => this.2.2 z q⟩
theorem srt_at {σ u : St} {k : Int} (hq : eqM u σ) (hs : srt u (σ 4 0)) (hk : 0 ≤ k ∧ k < σ 4 0) : u 6 k = jK (mA σ) (mV σ) (mB σ) (mW σ) k.toNat := by
  obtain ⟨t1, t2, t3, t4, -⟩ := hq.ties
  have := hs k.toNat (by omega)
  rw [t1, t2, t3, t4, show ((k.toNat : Nat) : Int) = k by omega] at this
  exact this
theorem ot_5 {σ u : St} {k what : Int} (hk : 0 ≤ k ∧ k < σ 4 0) (h : what = 5) (hq : eqM u σ) (hs : srt u (σ 4 0)) : u 6 k = fTie (σ 4 0) (mA σ) (mV σ) (mB σ) (mW σ) (mE σ) k what := by
  unfold fTie
  rw [if_pos hk, h, if_neg (by decide), if_neg (by decide), if_neg (by decide), if_neg (by decide), if_neg (by decide), if_pos rfl]
  exact srt_at hq hs hk
theorem ot_n {σ u : St} {k what : Int} (hk : 0 ≤ k ∧ k < σ 4 0) (h0 : 0 ≤ what ∧ what ≤ 5) (h : ¬ what = 5) (hq : eqM u σ) : u 5 (5 * k + what) = fTie (σ 4 0) (mA σ) (mV σ) (mB σ) (mW σ) (mE σ) k what := by
  rw [hq.2.2.2.2.2.1]
  unfold fTie
  rw [if_pos hk]
  rcases (show what = 0 ∨ what = 1 ∨ what = 2 ∨ what = 3 ∨ what = 4 by omega) with rfl | rfl | rfl | rfl | rfl
  · rw [if_pos rfl, Int.add_zero]; rfl
  · rw [if_neg (by decide), if_pos rfl]; rfl
  · rw [if_neg (by decide), if_neg (by decide), if_pos rfl]; rfl
  · rw [if_neg (by decide), if_neg (by decide), if_neg (by decide), if_pos rfl]; rfl
  · rw [if_neg (by decide), if_neg (by decide), if_neg (by decide), if_neg (by decide), if_pos rfl]; rfl
theorem told_pU {u l X Y : Int} (hu : u = pU X Y) (hl : l = pU (-X) (-Y)) : u / gcdI u l = pU X Y ∧ l / gcdI u l = pU (-X) (-Y) := by
  have h1 := pU_pos X Y
  have h2 := pU_pos (-X) (-Y)
  exact pU_red (by omega) (by omega) (by rw [hu, hl, Int.mul_comm])
/-- of a TIE that is not kept: its SECTIONS are joined -/
theorem of_get {σ u : St} {k : Int} (hwf : WfM σ) (hq : eqM u σ) (hd : SPD u (σ 4 0) (σ 5 (5 * k))) (hk : 0 ≤ k ∧ k < σ 4 0) (hn : ¬ jK (mA σ) (mV σ) (mB σ) (mW σ) k.toNat = 0) : jS (mA σ) (mV σ) (mB σ) (mW σ) (σ 4 0).toNat 0 (mB σ k) = jS (mA σ) (mV σ) (mB σ) (mW σ) (σ 4 0).toNat 0 (mA σ k) ∧ u 7 (u 5 (5 * k + 2)) = pU (eX (σ 4 0) (mA σ) (mV σ) (mB σ) (mW σ) (mA σ k) (mB σ k)) (eY (σ 4 0) (mA σ) (mV σ) (mB σ) (mW σ) (mA σ k) (mB σ k)) ∧ u 8 (u 5 (5 * k + 2)) = pU (-(eX (σ 4 0) (mA σ) (mV σ) (mB σ) (mW σ) (mA σ k) (mB σ k))) (-(eY (σ 4 0) (mA σ) (mV σ) (mB σ) (mW σ) (mA σ k) (mB σ k))) ∧ u 9 (u 5 (5 * k + 2)) = iXor (jS (mA σ) (mV σ) (mB σ) (mW σ) (σ 4 0).toNat 3 (mA σ k)) (jS (mA σ) (mV σ) (mB σ) (mW σ) (σ 4 0).toNat 3 (mB σ k)) ∧ (1 ≤ u 7 (u 5 (5 * k + 2)) ∧ u 7 (u 5 (5 * k + 2)) ≤ 68719476736) ∧ (1 ≤ u 8 (u 5 (5 * k + 2)) ∧ u 8 (u 5 (5 * k + 2)) ≤ 68719476736) ∧ (0 ≤ u 9 (u 5 (5 * k + 2)) ∧ u 9 (u 5 (5 * k + 2)) < 4096) := by
  have ht := hwf.tie (k := k) hk.1 hk.2
  have n0 := hwf.n.1
  rw [hq.2.2.2.2.2.1]
  have j := sp_get hwf hq hd (by omega) (x := σ 5 (5 * k + 2)) (by omega)
  have hkN : ((k.toNat : Nat) : Int) = k := by omega
  have e0 : jS (mA σ) (mV σ) (mB σ) (mW σ) k.toNat 0 (mB σ k) = jS (mA σ) (mV σ) (mB σ) (mW σ) k.toNat 0 (mA σ k) := by
    have := fun z => hn (jK_0.mpr z)
    rw [hkN] at this
    exact (Decidable.of_not_not this).symm
  have e1 := (jS_stays (n := (σ 4 0).toNat) (by omega) e0).1
  have hne : ¬ u 7 (σ 5 (5 * k + 2)) = 0 := fun z => j.2.2 z e1
  exact j.2.1 hne
theorem of_red {σ u : St} {k : Int} (hwf : WfM σ) (hk : 0 ≤ k ∧ k < σ 4 0) (h5 : u 5 = σ 5) {U L X Y : Int} (hu : U = pU X Y) (hl : L = pU (-X) (-Y)) : (U * tk (u 5 (5 * k + 1))) / gcdI (U * tk (u 5 (5 * k + 1))) (L * tk (u 5 (5 * k + 3))) = pU (X - (tw (mW σ k) - tw (mV σ k))) (Y - (th (mW σ k) - th (mV σ k))) ∧ (L * tk (u 5 (5 * k + 3))) / gcdI (U * tk (u 5 (5 * k + 1))) (L * tk (u 5 (5 * k + 3))) = pU (-(X - (tw (mW σ k) - tw (mV σ k)))) (-(Y - (th (mW σ k) - th (mV σ k)))) := by
  rw [h5]
  have ht := hwf.tie (k := k) hk.1 hk.2
  have h1 := pU_pos X Y
  have h2 := pU_pos (-X) (-Y)
  have ta := tk_rng ht.2.1
  have tb := tk_rng ht.2.2.2.1
  subst hu
  subst hl
  refine pU_red (Int.mul_nonneg (by omega) (by omega)) (Int.mul_pos (by omega) (by omega)) ?_
  have := pU_tie (X := X) (Y := Y) ht.2.2.2.1 ht.2.1
  show _ * pU (-(X - (tw (σ 5 (5 * k + 3)) - tw (σ 5 (5 * k + 1))))) (-(Y - (th (σ 5 (5 * k + 3)) - th (σ 5 (5 * k + 1))))) = _ * pU (X - (tw (σ 5 (5 * k + 3)) - tw (σ 5 (5 * k + 1)))) (Y - (th (σ 5 (5 * k + 3)) - th (σ 5 (5 * k + 1))))
  rw [show X - (tw (σ 5 (5 * k + 3)) - tw (σ 5 (5 * k + 1))) = X + (tw (σ 5 (5 * k + 1)) - tw (σ 5 (5 * k + 3))) by omega, show Y - (th (σ 5 (5 * k + 3)) - th (σ 5 (5 * k + 1))) = Y + (th (σ 5 (5 * k + 1)) - th (σ 5 (5 * k + 3))) by omega]
  exact this

set_option maxHeartbeats 4000000 in
set_option maxRecDepth 100000 in
theorem kX6_ofSection (l : Launch) (D : va_G) (E : Nat → Nat) (q : Nat → Nat) (σ : St) (s_ what : Int) (hwf : WfM σ) (hr : (-2147483648 ≤ s_ ∧ s_ < 2147483648) ∧ (-2147483648 ≤ what ∧ what < 2147483648)) : CtI l D E yX6_ofSection wsX6_ofSection ({ frames := 5, cells := 0, slots := 0, locals := 139 } : Room) [.ref (q 0), .int (jI s_), .int (jI what)] (MW E q σ) (MW E q) (fun (rv : Int) (uu : St) => (rv = fSec (σ 0 0) (σ 1) (σ 2) (σ 4 0) (mA σ) (mV σ) (mB σ) (mW σ) (σ 13 0) (σ 14) s_ what ∧ eqM uu σ)) := by
  refine mk_I (cc := cX6_ofSection) (maxL := 3) (ret := some .int) (by decide) rfl (Nat.le_of_ble_eq_true rfl) ?_
  intro p e s m args below meth c A X hret
  have hin6 : ∀ x ∈ u_ws RX6 TX6 19, x ∈ wsX6_ofSection := fun _ h => List.mem_cons_of_mem _ (List.mem_append_right _ h)
  refine z_lv (lv' := [(0, .ref (q 0)), (1, .int (jI s_)), (2, .int (jI what))]) [0, 1, 2] rfl ?_
  obtain ⟨n0, n3, n4, n13⟩ := hwf.n
  refine z_aload_n (pc' := 1) X dX6_ofSection_0 rfl 0 rfl rfl ?_
  refine z_iload_n (pc' := 2) X dX6_ofSection_1 rfl 1 rfl rfl ?_
  refine z_callVI (pc' := 5) (S := St) (As := [.int (jI s_)]) (rest := []) X dX6_ofSection_2 rfl (kX6_isSection l D E q σ s_  (hwf) (by omega)) (cwV 1 X.1.2.2.2.2 gX6_ofSection_X6_isSection rfl rfl rfl (by decide +kernel) ⟨Nat.le_of_ble_eq_true rfl, Nat.le_of_ble_eq_true rfl⟩) 0 rfl rfl rfl rfl (Nat.le_of_ble_eq_true rfl) (fun r2 u2 hp2 => ?_)
  obtain ⟨rfl, hp2⟩ := hp2
  rcases hp2 with ⟨rfl, hp2⟩ | ⟨rfl, hp2⟩
  · refine z_if_ne (tgt := 10) (pc' := 8) X dX6_ofSection_5 (by decide) rfl (by omega) (fun _ => ?_) (fun h => absurd h (by decide))
    refine z_aload_n (pc' := 11) X dX6_ofSection_10 rfl 0 rfl rfl ?_
    refine z_iload_n (pc' := 12) X dX6_ofSection_11 rfl 1 rfl rfl ?_
    refine z_callVV (pc' := 15) (S := St) (As := [.int (jI s_)]) (rest := []) X dX6_ofSection_12 rfl (kX6_spreadAll l D E q σ s_  (hwf) (by omega)) (cwV 1 X.1.2.2.2.2 gX6_ofSection_X6_spreadAll rfl rfl rfl (by decide +kernel) ⟨Nat.le_of_ble_eq_true rfl, Nat.le_of_ble_eq_true rfl⟩) 0 rfl rfl rfl rfl (Nat.le_of_ble_eq_true rfl) (fun u12 hp12 => ?_)
    obtain ⟨hq12, hs12, hd12⟩ := hp12
    have w12 := hq12.wf hwf
    have e0 : u12 0 0 = σ 0 0 := by rw [hq12.1]
    have e3 : u12 3 0 = σ 3 0 := by rw [hq12.2.2.2.1]
    have e4 : u12 4 0 = σ 4 0 := by rw [hq12.2.2.2.2.1]
    have e13 : u12 13 0 = σ 13 0 := by rw [hq12.2.2.2.2.2.2.1]
    refine z_iload_n (pc' := 16) X dX6_ofSection_15 rfl 2 rfl rfl ?_
    rcases (show what = 0 ∨ what = 1 ∨ what = 2 ∨ what = 3 ∨ what = 4 ∨ what = 5 ∨ (what < 0 ∨ 5 < what) by omega) with h16 | h16 | h16 | h16 | h16 | h16 | h16
    · refine z_tableIn (tgt := 56) (off := 40) X dX6_ofSection_16 (by decide) (by omega) (by omega) (by rw [h16]; rfl) ?_
      refine z_aload_n (pc' := 57) X dX6_ofSection_56 rfl 0 rfl rfl ?_
      refine z_get (pc' := 60) (C := RX6) (ref := "PivotBeatsModel") (T := TX6) (N := 19) (v := .ref (q 1)) X dX6_ofSection_57 rfl hin6 0 rfl rfl 1 (by decide) (by decide +kernel) rfl rfl ?_
      refine z_iload_n (pc' := 61) X dX6_ofSection_60 rfl 1 rfl rfl ?_
      refine z_iald (pc' := 62) (f := u12 1) (n := 7) X dX6_ofSection_61 rfl 1 rfl (by decide) (by omega) ?_
      exact z_iret (post := (fun (rv : Int) (uu : St) => (rv = fSec (σ 0 0) (σ 1) (σ 2) (σ 4 0) (mA σ) (mV σ) (mB σ) (mW σ) (σ 13 0) (σ 14) s_ what ∧ eqM uu σ))) X dX6_ofSection_62 hret u12 (⟨by unfold fSec; rw [if_pos hp2, h16, if_pos rfl, hq12.2.1], hq12⟩)
    · refine z_tableIn (tgt := 63) (off := 47) X dX6_ofSection_16 (by decide) (by omega) (by omega) (by rw [h16]; rfl) ?_
      refine z_aload_n (pc' := 64) X dX6_ofSection_63 rfl 0 rfl rfl ?_
      refine z_iload_n (pc' := 65) X dX6_ofSection_64 rfl 1 rfl rfl ?_
      refine z_callVI (pc' := 68) (S := St) (As := [.int (jI s_)]) (rest := []) X dX6_ofSection_65 rfl (kX6_tiesAt l D E q u12 s_  (w12) (by omega)) (cwV 1 X.1.2.2.2.2 gX6_ofSection_X6_tiesAt rfl rfl rfl (by decide +kernel) ⟨Nat.le_of_ble_eq_true rfl, Nat.le_of_ble_eq_true rfl⟩) 0 rfl rfl rfl rfl (Nat.le_of_ble_eq_true rfl) (fun r65 u65 hp65 => ?_)
      obtain ⟨rfl, hp65⟩ := hp65; replace hp65 := hp65.symm; subst hp65
      exact z_iret (post := (fun (rv : Int) (uu : St) => (rv = fSec (σ 0 0) (σ 1) (σ 2) (σ 4 0) (mA σ) (mV σ) (mB σ) (mW σ) (σ 13 0) (σ 14) s_ what ∧ eqM uu σ))) X dX6_ofSection_68 hret u12 (⟨by unfold fSec; rw [if_pos hp2, h16, if_neg (by decide), if_pos rfl, hq12.ties.1, hq12.ties.2.2.1, e4], hq12⟩)
    · refine z_tableIn (tgt := 69) (off := 53) X dX6_ofSection_16 (by decide) (by omega) (by omega) (by rw [h16]; rfl) ?_
      refine z_aload_n (pc' := 70) X dX6_ofSection_69 rfl 0 rfl rfl ?_
      refine z_get (pc' := 73) (C := RX6) (ref := "PivotBeatsModel") (T := TX6) (N := 19) (v := .int (jI (u12 10 0))) X dX6_ofSection_70 rfl hin6 0 rfl rfl 10 (by decide) (by decide +kernel) rfl rfl ?_
      exact z_iret (post := (fun (rv : Int) (uu : St) => (rv = fSec (σ 0 0) (σ 1) (σ 2) (σ 4 0) (mA σ) (mV σ) (mB σ) (mW σ) (σ 13 0) (σ 14) s_ what ∧ eqM uu σ))) X dX6_ofSection_73 hret u12 (⟨by unfold fSec; rw [if_pos hp2, h16, if_neg (by decide), if_neg (by decide), if_pos rfl]; exact os_met hwf hq12 hd12 (by omega), hq12⟩)
    · refine z_tableIn (tgt := 74) (off := 58) X dX6_ofSection_16 (by decide) (by omega) (by omega) (by rw [h16]; rfl) ?_
      refine z_aload_n (pc' := 75) X dX6_ofSection_74 rfl 0 rfl rfl ?_
      refine z_callVI (pc' := 78) (S := St) (As := []) (rest := []) X dX6_ofSection_75 rfl (kX6_leastMet l D E q u12  s_ (w12) (by rw [e4]; exact hd12) (by omega)) (cwV 0 X.1.2.2.2.2 gX6_ofSection_X6_leastMet rfl rfl rfl (by decide +kernel) ⟨Nat.le_of_ble_eq_true rfl, Nat.le_of_ble_eq_true rfl⟩) 0 rfl rfl rfl rfl (Nat.le_of_ble_eq_true rfl) (fun r75 u75 hp75 => ?_)
      obtain ⟨rfl, hp75⟩ := hp75; replace hp75 := hp75.symm; subst hp75
      exact z_iret (post := (fun (rv : Int) (uu : St) => (rv = fSec (σ 0 0) (σ 1) (σ 2) (σ 4 0) (mA σ) (mV σ) (mB σ) (mW σ) (σ 13 0) (σ 14) s_ what ∧ eqM uu σ))) X dX6_ofSection_78 hret u12 (⟨by unfold fSec; rw [if_pos hp2, h16, if_neg (by decide), if_neg (by decide), if_neg (by decide), if_pos rfl, hq12.ties.1, hq12.ties.2.1, hq12.ties.2.2.1, hq12.ties.2.2.2.1, e4], hq12⟩)
    · refine z_tableIn (tgt := 79) (off := 63) X dX6_ofSection_16 (by decide) (by omega) (by omega) (by rw [h16]; rfl) ?_
      refine z_aload_n (pc' := 80) X dX6_ofSection_79 rfl 0 rfl rfl ?_
      refine z_get (pc' := 83) (C := RX6) (ref := "PivotBeatsModel") (T := TX6) (N := 19) (v := .ref (q 2)) X dX6_ofSection_80 rfl hin6 0 rfl rfl 2 (by decide) (by decide +kernel) rfl rfl ?_
      refine z_iload_n (pc' := 84) X dX6_ofSection_83 rfl 1 rfl rfl ?_
      refine z_iald (pc' := 85) (f := u12 2) (n := 7) X dX6_ofSection_84 rfl 2 rfl (by decide) (by omega) ?_
      exact z_iret (post := (fun (rv : Int) (uu : St) => (rv = fSec (σ 0 0) (σ 1) (σ 2) (σ 4 0) (mA σ) (mV σ) (mB σ) (mW σ) (σ 13 0) (σ 14) s_ what ∧ eqM uu σ))) X dX6_ofSection_85 hret u12 (⟨by unfold fSec; rw [if_pos hp2, h16, if_neg (by decide), if_neg (by decide), if_neg (by decide), if_neg (by decide), if_pos rfl, hq12.2.2.1], hq12⟩)
    · refine z_tableIn (tgt := 86) (off := 70) X dX6_ofSection_16 (by decide) (by omega) (by omega) (by rw [h16]; rfl) ?_
      refine z_aload_n (pc' := 87) X dX6_ofSection_86 rfl 0 rfl rfl ?_
      refine z_iload_n (pc' := 88) X dX6_ofSection_87 rfl 1 rfl rfl ?_
      refine z_callVI (pc' := 91) (S := St) (As := [.int (jI s_)]) (rest := []) X dX6_ofSection_88 rfl (kX6_isPinHeld l D E q u12 s_  (w12) (by omega)) (cwV 1 X.1.2.2.2.2 gX6_ofSection_X6_isPinHeld rfl rfl rfl (by decide +kernel) ⟨Nat.le_of_ble_eq_true rfl, Nat.le_of_ble_eq_true rfl⟩) 0 rfl rfl rfl rfl (Nat.le_of_ble_eq_true rfl) (fun r88 u88 hp88 => ?_)
      obtain ⟨rfl, hp88⟩ := hp88
      refine z_if_eq (tgt := 98) (pc' := 94) X dX6_ofSection_91 (by decide) rfl (by (have := pnH_01 (u12 13 0) (u12 14) (u12 2 s_); omega)) (fun h91 => ?_) (fun h91 => ?_)
      · refine z_iconst (pc' := 99) X dX6_ofSection_98 rfl ?_
        exact z_iret (post := (fun (rv : Int) (uu : St) => (rv = fSec (σ 0 0) (σ 1) (σ 2) (σ 4 0) (mA σ) (mV σ) (mB σ) (mW σ) (σ 13 0) (σ 14) s_ what ∧ eqM uu σ))) X dX6_ofSection_99 hret u12 (⟨by unfold fSec; rw [if_pos hp2, h16, if_neg (by decide), if_neg (by decide), if_neg (by decide), if_neg (by decide), if_neg (by decide), if_pos rfl, ← hq12.2.2.1, ← e13, ← hq12.2.2.2.2.2.2.2]; have := pnH_01 (u12 13 0) (u12 14) (u12 2 s_); omega, hq12⟩)
      · refine z_iconst (pc' := 95) X dX6_ofSection_94 rfl ?_
        refine z_goto (tgt := 99) X dX6_ofSection_95 (by decide) ?_
        exact z_iret (post := (fun (rv : Int) (uu : St) => (rv = fSec (σ 0 0) (σ 1) (σ 2) (σ 4 0) (mA σ) (mV σ) (mB σ) (mW σ) (σ 13 0) (σ 14) s_ what ∧ eqM uu σ))) X dX6_ofSection_99 hret u12 (⟨by unfold fSec; rw [if_pos hp2, h16, if_neg (by decide), if_neg (by decide), if_neg (by decide), if_neg (by decide), if_neg (by decide), if_pos rfl, ← hq12.2.2.1, ← e13, ← hq12.2.2.2.2.2.2.2]; have := pnH_01 (u12 13 0) (u12 14) (u12 2 s_); omega, hq12⟩)
    · refine z_tableOut (tgt := 100) X dX6_ofSection_16 (by decide) (by omega) h16 ?_
      refine z_bipush (pc' := 102) X dX6_ofSection_100 rfl rfl ?_
      exact z_iret (post := (fun (rv : Int) (uu : St) => (rv = fSec (σ 0 0) (σ 1) (σ 2) (σ 4 0) (mA σ) (mV σ) (mB σ) (mW σ) (σ 13 0) (σ 14) s_ what ∧ eqM uu σ))) X dX6_ofSection_102 hret u12 (⟨by unfold fSec; rw [if_pos hp2, if_neg (by omega), if_neg (by omega), if_neg (by omega), if_neg (by omega), if_neg (by omega), if_neg (by omega)], hq12⟩)
  · refine z_if_ne (tgt := 10) (pc' := 8) X dX6_ofSection_5 (by decide) rfl (by omega) (fun h => absurd h (by decide)) (fun _ => ?_)
    refine z_iconst (pc' := 9) X dX6_ofSection_8 rfl ?_
    exact z_iret (post := (fun (rv : Int) (uu : St) => (rv = fSec (σ 0 0) (σ 1) (σ 2) (σ 4 0) (mA σ) (mV σ) (mB σ) (mW σ) (σ 13 0) (σ 14) s_ what ∧ eqM uu σ))) X dX6_ofSection_9 hret σ (⟨by unfold fSec; rw [if_neg hp2], eqM.rf σ⟩)
set_option maxHeartbeats 4000000 in
set_option maxRecDepth 100000 in
theorem kX6_ofTie (l : Launch) (D : va_G) (E : Nat → Nat) (q : Nat → Nat) (σ : St) (k what : Int) (hwf : WfM σ) (hr : (-2147483648 ≤ k ∧ k < 2147483648) ∧ (-2147483648 ≤ what ∧ what < 2147483648)) : CtI l D E yX6_ofTie wsX6_ofTie ({ frames := 4, cells := 0, slots := 0, locals := 118 } : Room) [.ref (q 0), .int (jI k), .int (jI what)] (MW E q σ) (MW E q) (fun (rv : Int) (uu : St) => (rv = fTie (σ 4 0) (mA σ) (mV σ) (mB σ) (mW σ) (mE σ) k what ∧ eqM uu σ)) := by
  refine mk_I (cc := cX6_ofTie) (maxL := 3) (ret := some .int) (by decide) rfl (Nat.le_of_ble_eq_true rfl) ?_
  intro p e s m args below meth c A X hret
  have hin6 : ∀ x ∈ u_ws RX6 TX6 19, x ∈ wsX6_ofTie := fun _ h => List.mem_cons_of_mem _ (List.mem_append_right _ h)
  refine z_lv (lv' := [(0, .ref (q 0)), (1, .int (jI k)), (2, .int (jI what))]) [0, 1, 2] rfl ?_
  obtain ⟨n0, n3, n4, n13⟩ := hwf.n
  refine z_aload_n (pc' := 1) X dX6_ofTie_0 rfl 0 rfl rfl ?_
  refine z_iload_n (pc' := 2) X dX6_ofTie_1 rfl 1 rfl rfl ?_
  refine z_callVI (pc' := 5) (S := St) (As := [.int (jI k)]) (rest := []) X dX6_ofTie_2 rfl (kX6_isTie l D E q σ k  (hwf) (by omega)) (cwV 1 X.1.2.2.2.2 gX6_ofTie_X6_isTie rfl rfl rfl (by decide +kernel) ⟨Nat.le_of_ble_eq_true rfl, Nat.le_of_ble_eq_true rfl⟩) 0 rfl rfl rfl rfl (Nat.le_of_ble_eq_true rfl) (fun r2 u2 hp2 => ?_)
  obtain ⟨rfl, hp2⟩ := hp2
  rcases hp2 with ⟨rfl, hp2⟩ | ⟨rfl, hp2⟩
  · refine z_if_ne (tgt := 10) (pc' := 8) X dX6_ofTie_5 (by decide) rfl (by omega) (fun _ => ?_) (fun h => absurd h (by decide))
    refine z_iload_n (pc' := 11) X dX6_ofTie_10 rfl 2 rfl rfl ?_
    refine z_iconst (pc' := 12) X dX6_ofTie_11 rfl ?_
    refine z_iconst (pc' := 13) X dX6_ofTie_12 rfl ?_
    refine z_callPI (pc' := 16) (S := Unit) (As := [.int (jI what), .int (jI 0), .int (jI 5)]) (rest := []) X dX6_ofTie_13 rfl (kX6_isIn l D E what 0 5  (by omega)) (va_cwS 3 X.1.2.2.2.2 gX6_ofTie_X6_isIn rfl rfl rfl (by decide +kernel) ⟨Nat.le_of_ble_eq_true rfl, Nat.le_of_ble_eq_true rfl⟩) rfl rfl (Nat.le_of_ble_eq_true rfl) (fun r13 u13 hp13 => ?_)
    skip
    rcases hp13 with ⟨rfl, hp13⟩ | ⟨rfl, hp13⟩
    · refine z_if_ne (tgt := 22) (pc' := 19) X dX6_ofTie_16 (by decide) rfl (by omega) (fun _ => ?_) (fun h => absurd h (by decide))
      refine z_aload_n (pc' := 23) X dX6_ofTie_22 rfl 0 rfl rfl ?_
      refine z_callVV (pc' := 26) (S := St) (As := []) (rest := []) X dX6_ofTie_23 rfl (kX6_findSorts l D E q σ   (hwf)) (cwV 0 X.1.2.2.2.2 gX6_ofTie_X6_findSorts rfl rfl rfl (by decide +kernel) ⟨Nat.le_of_ble_eq_true rfl, Nat.le_of_ble_eq_true rfl⟩) 0 rfl rfl rfl rfl (Nat.le_of_ble_eq_true rfl) (fun u23 hp23 => ?_)
      obtain ⟨hq23, hs23⟩ := hp23
      have w23 := hq23.wf hwf
      have e0 : u23 0 0 = σ 0 0 := by rw [hq23.1]
      have e3 : u23 3 0 = σ 3 0 := by rw [hq23.2.2.2.1]
      have e4 : u23 4 0 = σ 4 0 := by rw [hq23.2.2.2.2.1]
      have e13 : u23 13 0 = σ 13 0 := by rw [hq23.2.2.2.2.2.2.1]
      refine z_iload_n (pc' := 27) X dX6_ofTie_26 rfl 2 rfl rfl ?_
      refine z_iconst (pc' := 28) X dX6_ofTie_27 rfl ?_
      refine z_icmp_ne (tgt := 40) (pc' := 31) X dX6_ofTie_28 (by decide) rfl (by omega) (fun h28 => ?_) (fun h28 => ?_)
      · refine z_aload_n (pc' := 41) X dX6_ofTie_40 rfl 0 rfl rfl ?_
        refine z_get (pc' := 44) (C := RX6) (ref := "PivotBeatsModel") (T := TX6) (N := 19) (v := .ref (q 5)) X dX6_ofTie_41 rfl hin6 0 rfl rfl 5 (by decide) (by decide +kernel) rfl rfl ?_
        refine z_iconst (pc' := 45) X dX6_ofTie_44 rfl ?_
        refine z_iload_n (pc' := 46) X dX6_ofTie_45 rfl 1 rfl rfl ?_
        refine z_imul (pc' := 47) X dX6_ofTie_46 rfl ?_
        refine z_iload_n (pc' := 48) X dX6_ofTie_47 rfl 2 rfl rfl ?_
        refine z_iadd (pc' := 49) X dX6_ofTie_48 rfl ?_
        refine z_iald (pc' := 50) (f := u23 5) (n := 60) X dX6_ofTie_49 rfl 3 rfl (by decide) (by omega) ?_
        exact z_iret (post := (fun (rv : Int) (uu : St) => (rv = fTie (σ 4 0) (mA σ) (mV σ) (mB σ) (mW σ) (mE σ) k what ∧ eqM uu σ))) X dX6_ofTie_50 hret u23 (by first | exact ⟨ot_5 hp2 h28 hq23 hs23, hq23⟩ | exact ⟨ot_n hp2 hp13 h28 hq23, hq23⟩)
      · refine z_aload_n (pc' := 32) X dX6_ofTie_31 rfl 0 rfl rfl ?_
        refine z_get (pc' := 35) (C := RX6) (ref := "PivotBeatsModel") (T := TX6) (N := 19) (v := .ref (q 6)) X dX6_ofTie_32 rfl hin6 0 rfl rfl 6 (by decide) (by decide +kernel) rfl rfl ?_
        refine z_iload_n (pc' := 36) X dX6_ofTie_35 rfl 1 rfl rfl ?_
        refine z_iald (pc' := 37) (f := u23 6) (n := 12) X dX6_ofTie_36 rfl 4 rfl (by decide) (by omega) ?_
        refine z_goto (tgt := 50) X dX6_ofTie_37 (by decide) ?_
        exact z_iret (post := (fun (rv : Int) (uu : St) => (rv = fTie (σ 4 0) (mA σ) (mV σ) (mB σ) (mW σ) (mE σ) k what ∧ eqM uu σ))) X dX6_ofTie_50 hret u23 (by first | exact ⟨ot_5 hp2 h28 hq23 hs23, hq23⟩ | exact ⟨ot_n hp2 hp13 h28 hq23, hq23⟩)
    · refine z_if_ne (tgt := 22) (pc' := 19) X dX6_ofTie_16 (by decide) rfl (by omega) (fun h => absurd h (by decide)) (fun _ => ?_)
      refine z_bipush (pc' := 21) X dX6_ofTie_19 rfl rfl ?_
      exact z_iret (post := (fun (rv : Int) (uu : St) => (rv = fTie (σ 4 0) (mA σ) (mV σ) (mB σ) (mW σ) (mE σ) k what ∧ eqM uu σ))) X dX6_ofTie_21 hret σ (⟨by unfold fTie; rw [if_pos hp2, if_neg (by omega), if_neg (by omega), if_neg (by omega), if_neg (by omega), if_neg (by omega), if_neg (by omega)], eqM.rf σ⟩)
  · refine z_if_ne (tgt := 10) (pc' := 8) X dX6_ofTie_5 (by decide) rfl (by omega) (fun h => absurd h (by decide)) (fun _ => ?_)
    refine z_iconst (pc' := 9) X dX6_ofTie_8 rfl ?_
    exact z_iret (post := (fun (rv : Int) (uu : St) => (rv = fTie (σ 4 0) (mA σ) (mV σ) (mB σ) (mW σ) (mE σ) k what ∧ eqM uu σ))) X dX6_ofTie_9 hret σ (⟨by unfold fTie; rw [if_neg hp2], eqM.rf σ⟩)
set_option maxHeartbeats 4000000 in
set_option maxRecDepth 100000 in
theorem kX6_tempo (l : Launch) (D : va_G) (E : Nat → Nat) (q : Nat → Nat) (σ : St) (s_ which : Int) (hwf : WfM σ) (hr : (-2147483648 ≤ s_ ∧ s_ < 2147483648) ∧ (-2147483648 ≤ which ∧ which < 2147483648)) : CtL l D E yX6_tempo wsX6_tempo ({ frames := 5, cells := 0, slots := 0, locals := 139 } : Room) [.ref (q 0), .int (jI s_), .int (jI which)] (MW E q σ) (MW E q) (fun (rv : Int) (uu : St) => (rv = fTempo (σ 0 0) (σ 3 0) (σ 4 0) (mA σ) (mV σ) (mB σ) (mW σ) s_ which ∧ eqM uu σ)) := by
  refine mk_L (cc := cX6_tempo) (maxL := 3) (ret := some .long) (by decide) rfl (Nat.le_of_ble_eq_true rfl) ?_
  intro p e s m args below meth c A X hret
  have hin6 : ∀ x ∈ u_ws RX6 TX6 19, x ∈ wsX6_tempo := fun _ h => List.mem_cons_of_mem _ (List.mem_append_right _ h)
  refine z_lv (lv' := [(0, .ref (q 0)), (1, .int (jI s_)), (2, .int (jI which))]) [0, 1, 2] rfl ?_
  obtain ⟨n0, n3, n4, n13⟩ := hwf.n
  refine z_aload_n (pc' := 1) X dX6_tempo_0 rfl 0 rfl rfl ?_
  refine z_iload_n (pc' := 2) X dX6_tempo_1 rfl 1 rfl rfl ?_
  refine z_callVI (pc' := 5) (S := St) (As := [.int (jI s_)]) (rest := []) X dX6_tempo_2 rfl (kX6_isSection l D E q σ s_  (hwf) (by omega)) (cwV 1 X.1.2.2.2.2 gX6_tempo_X6_isSection rfl rfl rfl (by decide +kernel) ⟨Nat.le_of_ble_eq_true rfl, Nat.le_of_ble_eq_true rfl⟩) 0 rfl rfl rfl rfl (Nat.le_of_ble_eq_true rfl) (fun r2 u2 hp2 => ?_)
  obtain ⟨rfl, hp2⟩ := hp2
  rcases hp2 with ⟨rfl, hp2⟩ | ⟨rfl, hp2⟩
  · refine z_if_ne (tgt := 12) (pc' := 8) X dX6_tempo_5 (by decide) rfl (by omega) (fun _ => ?_) (fun h => absurd h (by decide))
    refine z_iload_n (pc' := 13) X dX6_tempo_12 rfl 2 rfl rfl ?_
    refine z_iconst (pc' := 14) X dX6_tempo_13 rfl ?_
    refine z_iconst (pc' := 15) X dX6_tempo_14 rfl ?_
    refine z_callPI (pc' := 18) (S := Unit) (As := [.int (jI which), .int (jI 0), .int (jI 1)]) (rest := []) X dX6_tempo_15 rfl (kX6_isIn l D E which 0 1  (by omega)) (va_cwS 3 X.1.2.2.2.2 gX6_tempo_X6_isIn rfl rfl rfl (by decide +kernel) ⟨Nat.le_of_ble_eq_true rfl, Nat.le_of_ble_eq_true rfl⟩) rfl rfl (Nat.le_of_ble_eq_true rfl) (fun r15 u15 hp15 => ?_)
    skip
    rcases hp15 with ⟨rfl, hp15⟩ | ⟨rfl, hp15⟩
    · refine z_if_ne (tgt := 25) (pc' := 21) X dX6_tempo_18 (by decide) rfl (by omega) (fun _ => ?_) (fun h => absurd h (by decide))
      refine z_aload_n (pc' := 26) X dX6_tempo_25 rfl 0 rfl rfl ?_
      refine z_iconst (pc' := 27) X dX6_tempo_26 rfl ?_
      refine z_callVV (pc' := 30) (S := St) (As := [.int (jI 0)]) (rest := []) X dX6_tempo_27 rfl (kX6_spreadAll l D E q σ 0  (hwf) (by omega)) (cwV 1 X.1.2.2.2.2 gX6_tempo_X6_spreadAll rfl rfl rfl (by decide +kernel) ⟨Nat.le_of_ble_eq_true rfl, Nat.le_of_ble_eq_true rfl⟩) 0 rfl rfl rfl rfl (Nat.le_of_ble_eq_true rfl) (fun u27 hp27 => ?_)
      obtain ⟨hq27, hs27, hd27⟩ := hp27
      have w27 := hq27.wf hwf
      have e0 : u27 0 0 = σ 0 0 := by rw [hq27.1]
      have e3 : u27 3 0 = σ 3 0 := by rw [hq27.2.2.2.1]
      have e4 : u27 4 0 = σ 4 0 := by rw [hq27.2.2.2.2.1]
      have e13 : u27 13 0 = σ 13 0 := by rw [hq27.2.2.2.2.2.2.1]
      have j := sp_get hwf hq27 hd27 (by omega) (x := s_) (by omega)
      refine z_aload_n (pc' := 31) X dX6_tempo_30 rfl 0 rfl rfl ?_
      refine z_get (pc' := 34) (C := RX6) (ref := "PivotBeatsModel") (T := TX6) (N := 19) (v := .ref (q 7)) X dX6_tempo_31 rfl hin6 0 rfl rfl 7 (by decide) (by decide +kernel) rfl rfl ?_
      refine z_iload_n (pc' := 35) X dX6_tempo_34 rfl 1 rfl rfl ?_
      refine z_lald (pc' := 36) (f := u27 7) (n := 7) X dX6_tempo_35 rfl 5 rfl (by decide) (by omega) ?_
      refine z_lconst (pc' := 37) (x := 0) X dX6_tempo_36 rfl rfl ?_
      refine z_lcmp_ne (tgt := 47) (pc' := 41) X dX6_tempo_37 (pc1 := 38) rfl dX6_tempo_38 (by decide) rfl (by (have := j.1; omega)) (fun h37 => ?_) (fun h37 => ?_)
      · obtain ⟨jj, j7, j8, j9, jb, jc, jd⟩ := j.2.1 h37
        have hpr := mul_bd (a := u27 3 0) (b := u27 7 s_) (A := 400) (B := 68719476736) (by omega) (by omega)
        refine z_aload_n (pc' := 48) X dX6_tempo_47 rfl 0 rfl rfl ?_
        refine z_get (pc' := 51) (C := RX6) (ref := "PivotBeatsModel") (T := TX6) (N := 19) (v := .int (jI (u27 3 0))) X dX6_tempo_48 rfl hin6 0 rfl rfl 3 (by decide) (by decide +kernel) rfl rfl ?_
        refine z_i2l (pc' := 52) X dX6_tempo_51 rfl (by omega) ?_
        refine z_aload_n (pc' := 53) X dX6_tempo_52 rfl 0 rfl rfl ?_
        refine z_get (pc' := 56) (C := RX6) (ref := "PivotBeatsModel") (T := TX6) (N := 19) (v := .ref (q 7)) X dX6_tempo_53 rfl hin6 0 rfl rfl 7 (by decide) (by decide +kernel) rfl rfl ?_
        refine z_iload_n (pc' := 57) X dX6_tempo_56 rfl 1 rfl rfl ?_
        refine z_lald (pc' := 58) (f := u27 7) (n := 7) X dX6_tempo_57 rfl 5 rfl (by decide) (by omega) ?_
        refine z_lmul (pc' := 59) X dX6_tempo_58 rfl ?_
        refine z_aload_n (pc' := 60) X dX6_tempo_59 rfl 0 rfl rfl ?_
        refine z_get (pc' := 63) (C := RX6) (ref := "PivotBeatsModel") (T := TX6) (N := 19) (v := .ref (q 8)) X dX6_tempo_60 rfl hin6 0 rfl rfl 8 (by decide) (by decide +kernel) rfl rfl ?_
        refine z_iload_n (pc' := 64) X dX6_tempo_63 rfl 1 rfl rfl ?_
        refine z_lald (pc' := 65) (f := u27 8) (n := 7) X dX6_tempo_64 rfl 6 rfl (by decide) (by omega) ?_
        refine z_iload_n (pc' := 66) X dX6_tempo_65 rfl 2 rfl rfl ?_
        refine z_callPL (pc' := 69) (S := Unit) (As := [.long (jL ((u27 3 0) * (u27 7 s_))), .long (jL (u27 8 s_)), .int (jI which)]) (rest := []) X dX6_tempo_66 rfl (kX6_told l D E ((u27 3 0) * (u27 7 s_)) (u27 8 s_) which  (by omega)) (va_cwS 3 X.1.2.2.2.2 gX6_tempo_X6_told rfl rfl rfl (by decide +kernel) ⟨Nat.le_of_ble_eq_true rfl, Nat.le_of_ble_eq_true rfl⟩) rfl rfl (Nat.le_of_ble_eq_true rfl) (fun r66 u66 hp66 => ?_)
        replace hp66 := hp66.symm; subst hp66
        exact z_lret (post := (fun (rv : Int) (uu : St) => (rv = fTempo (σ 0 0) (σ 3 0) (σ 4 0) (mA σ) (mV σ) (mB σ) (mW σ) s_ which ∧ eqM uu σ))) X dX6_tempo_69 hret u27 (by first | exact ⟨by unfold fTempo; rw [if_pos hp2, if_pos hp15, if_neg (j.2.2 h37)], hq27⟩ | exact ⟨by unfold fTempo tU tL; rw [if_pos hp2, if_pos hp15, if_pos jj, e3, j7, j8], hq27⟩)
      · refine z_ldc2 (pc' := 44) (x := -9) X dX6_tempo_41 rfl (by decide +kernel) rfl ?_
        refine z_goto (tgt := 69) X dX6_tempo_44 (by decide) ?_
        exact z_lret (post := (fun (rv : Int) (uu : St) => (rv = fTempo (σ 0 0) (σ 3 0) (σ 4 0) (mA σ) (mV σ) (mB σ) (mW σ) s_ which ∧ eqM uu σ))) X dX6_tempo_69 hret u27 (by first | exact ⟨by unfold fTempo; rw [if_pos hp2, if_pos hp15, if_neg (j.2.2 h37)], hq27⟩ | exact ⟨by unfold fTempo tU tL; rw [if_pos hp2, if_pos hp15, if_pos jj, e3, j7, j8], hq27⟩)
    · refine z_if_ne (tgt := 25) (pc' := 21) X dX6_tempo_18 (by decide) rfl (by omega) (fun h => absurd h (by decide)) (fun _ => ?_)
      refine z_ldc2 (pc' := 24) (x := -2) X dX6_tempo_21 rfl (by decide +kernel) rfl ?_
      exact z_lret (post := (fun (rv : Int) (uu : St) => (rv = fTempo (σ 0 0) (σ 3 0) (σ 4 0) (mA σ) (mV σ) (mB σ) (mW σ) s_ which ∧ eqM uu σ))) X dX6_tempo_24 hret σ (⟨by unfold fTempo; rw [if_pos hp2, if_neg hp15], eqM.rf σ⟩)
  · refine z_if_ne (tgt := 12) (pc' := 8) X dX6_tempo_5 (by decide) rfl (by omega) (fun h => absurd h (by decide)) (fun _ => ?_)
    refine z_ldc2 (pc' := 11) (x := -1) X dX6_tempo_8 rfl (by decide +kernel) rfl ?_
    exact z_lret (post := (fun (rv : Int) (uu : St) => (rv = fTempo (σ 0 0) (σ 3 0) (σ 4 0) (mA σ) (mV σ) (mB σ) (mW σ) s_ which ∧ eqM uu σ))) X dX6_tempo_11 hret σ (⟨by unfold fTempo; rw [if_neg hp2], eqM.rf σ⟩)
set_option maxHeartbeats 4000000 in
set_option maxRecDepth 100000 in
theorem kX6_ratio (l : Launch) (D : va_G) (E : Nat → Nat) (q : Nat → Nat) (σ : St) (a b which : Int) (hwf : WfM σ) (hr : (-2147483648 ≤ a ∧ a < 2147483648) ∧ (-2147483648 ≤ b ∧ b < 2147483648) ∧ (-2147483648 ≤ which ∧ which < 2147483648)) : CtL l D E yX6_ratio wsX6_ratio ({ frames := 5, cells := 0, slots := 0, locals := 139 } : Room) [.ref (q 0), .int (jI a), .int (jI b), .int (jI which)] (MW E q σ) (MW E q) (fun (rv : Int) (uu : St) => (rv = fRatio (σ 0 0) (σ 4 0) (mA σ) (mV σ) (mB σ) (mW σ) a b which ∧ eqM uu σ)) := by
  refine mk_L (cc := cX6_ratio) (maxL := 4) (ret := some .long) (by decide) rfl (Nat.le_of_ble_eq_true rfl) ?_
  intro p e s m args below meth c A X hret
  have hin6 : ∀ x ∈ u_ws RX6 TX6 19, x ∈ wsX6_ratio := fun _ h => List.mem_cons_of_mem _ (List.mem_append_right _ h)
  refine z_lv (lv' := [(0, .ref (q 0)), (1, .int (jI a)), (2, .int (jI b)), (3, .int (jI which))]) [0, 1, 2, 3] rfl ?_
  obtain ⟨n0, n3, n4, n13⟩ := hwf.n
  refine z_aload_n (pc' := 1) X dX6_ratio_0 rfl 0 rfl rfl ?_
  refine z_iload_n (pc' := 2) X dX6_ratio_1 rfl 1 rfl rfl ?_
  refine z_callVI (pc' := 5) (S := St) (As := [.int (jI a)]) (rest := []) X dX6_ratio_2 rfl (kX6_isSection l D E q σ a  (hwf) (by omega)) (cwV 1 X.1.2.2.2.2 gX6_ratio_X6_isSection rfl rfl rfl (by decide +kernel) ⟨Nat.le_of_ble_eq_true rfl, Nat.le_of_ble_eq_true rfl⟩) 0 rfl rfl rfl rfl (Nat.le_of_ble_eq_true rfl) (fun r2 u2 hp2 => ?_)
  obtain ⟨rfl, hp2⟩ := hp2
  rcases hp2 with ⟨rfl, hp2⟩ | ⟨rfl, hp2⟩
  · refine z_if_eq (tgt := 16) (pc' := 8) X dX6_ratio_5 (by decide) rfl (by omega) (fun h => absurd h (by decide)) (fun _ => ?_)
    refine z_aload_n (pc' := 9) X dX6_ratio_8 rfl 0 rfl rfl ?_
    refine z_iload_n (pc' := 10) X dX6_ratio_9 rfl 2 rfl rfl ?_
    refine z_callVI (pc' := 13) (S := St) (As := [.int (jI b)]) (rest := []) X dX6_ratio_10 rfl (kX6_isSection l D E q σ b  (hwf) (by omega)) (cwV 1 X.1.2.2.2.2 gX6_ratio_X6_isSection rfl rfl rfl (by decide +kernel) ⟨Nat.le_of_ble_eq_true rfl, Nat.le_of_ble_eq_true rfl⟩) 0 rfl rfl rfl rfl (Nat.le_of_ble_eq_true rfl) (fun r10 u10 hp10 => ?_)
    obtain ⟨rfl, hp10⟩ := hp10
    rcases hp10 with ⟨rfl, hp10⟩ | ⟨rfl, hp10⟩
    · refine z_if_ne (tgt := 20) (pc' := 16) X dX6_ratio_13 (by decide) rfl (by omega) (fun _ => ?_) (fun h => absurd h (by decide))
      refine z_iload_n (pc' := 21) X dX6_ratio_20 rfl 3 rfl rfl ?_
      refine z_iconst (pc' := 22) X dX6_ratio_21 rfl ?_
      refine z_iconst (pc' := 23) X dX6_ratio_22 rfl ?_
      refine z_callPI (pc' := 26) (S := Unit) (As := [.int (jI which), .int (jI 0), .int (jI 1)]) (rest := []) X dX6_ratio_23 rfl (kX6_isIn l D E which 0 1  (by omega)) (va_cwS 3 X.1.2.2.2.2 gX6_ratio_X6_isIn rfl rfl rfl (by decide +kernel) ⟨Nat.le_of_ble_eq_true rfl, Nat.le_of_ble_eq_true rfl⟩) rfl rfl (Nat.le_of_ble_eq_true rfl) (fun r23 u23 hp23 => ?_)
      skip
      rcases hp23 with ⟨rfl, hp23⟩ | ⟨rfl, hp23⟩
      · refine z_if_ne (tgt := 33) (pc' := 29) X dX6_ratio_26 (by decide) rfl (by omega) (fun _ => ?_) (fun h => absurd h (by decide))
        refine z_aload_n (pc' := 34) X dX6_ratio_33 rfl 0 rfl rfl ?_
        refine z_iload_n (pc' := 35) X dX6_ratio_34 rfl 1 rfl rfl ?_
        refine z_callVV (pc' := 38) (S := St) (As := [.int (jI a)]) (rest := []) X dX6_ratio_35 rfl (kX6_spreadAll l D E q σ a  (hwf) (by omega)) (cwV 1 X.1.2.2.2.2 gX6_ratio_X6_spreadAll rfl rfl rfl (by decide +kernel) ⟨Nat.le_of_ble_eq_true rfl, Nat.le_of_ble_eq_true rfl⟩) 0 rfl rfl rfl rfl (Nat.le_of_ble_eq_true rfl) (fun u35 hp35 => ?_)
        obtain ⟨hq35, hs35, hd35⟩ := hp35
        have w35 := hq35.wf hwf
        have e0 : u35 0 0 = σ 0 0 := by rw [hq35.1]
        have e3 : u35 3 0 = σ 3 0 := by rw [hq35.2.2.2.1]
        have e4 : u35 4 0 = σ 4 0 := by rw [hq35.2.2.2.2.1]
        have e13 : u35 13 0 = σ 13 0 := by rw [hq35.2.2.2.2.2.2.1]
        have j := sp_get hwf hq35 hd35 (by omega) (x := b) (by omega)
        refine z_aload_n (pc' := 39) X dX6_ratio_38 rfl 0 rfl rfl ?_
        refine z_get (pc' := 42) (C := RX6) (ref := "PivotBeatsModel") (T := TX6) (N := 19) (v := .ref (q 7)) X dX6_ratio_39 rfl hin6 0 rfl rfl 7 (by decide) (by decide +kernel) rfl rfl ?_
        refine z_iload_n (pc' := 43) X dX6_ratio_42 rfl 2 rfl rfl ?_
        refine z_lald (pc' := 44) (f := u35 7) (n := 7) X dX6_ratio_43 rfl 5 rfl (by decide) (by omega) ?_
        refine z_lconst (pc' := 45) (x := 0) X dX6_ratio_44 rfl rfl ?_
        refine z_lcmp_ne (tgt := 55) (pc' := 49) X dX6_ratio_45 (pc1 := 46) rfl dX6_ratio_46 (by decide) rfl (by (have := j.1; omega)) (fun h45 => ?_) (fun h45 => ?_)
        · obtain ⟨jj, j7, j8, j9, jb, jc, jd⟩ := j.2.1 h45
          refine z_aload_n (pc' := 56) X dX6_ratio_55 rfl 0 rfl rfl ?_
          refine z_get (pc' := 59) (C := RX6) (ref := "PivotBeatsModel") (T := TX6) (N := 19) (v := .ref (q 7)) X dX6_ratio_56 rfl hin6 0 rfl rfl 7 (by decide) (by decide +kernel) rfl rfl ?_
          refine z_iload_n (pc' := 60) X dX6_ratio_59 rfl 2 rfl rfl ?_
          refine z_lald (pc' := 61) (f := u35 7) (n := 7) X dX6_ratio_60 rfl 5 rfl (by decide) (by omega) ?_
          refine z_aload_n (pc' := 62) X dX6_ratio_61 rfl 0 rfl rfl ?_
          refine z_get (pc' := 65) (C := RX6) (ref := "PivotBeatsModel") (T := TX6) (N := 19) (v := .ref (q 8)) X dX6_ratio_62 rfl hin6 0 rfl rfl 8 (by decide) (by decide +kernel) rfl rfl ?_
          refine z_iload_n (pc' := 66) X dX6_ratio_65 rfl 2 rfl rfl ?_
          refine z_lald (pc' := 67) (f := u35 8) (n := 7) X dX6_ratio_66 rfl 6 rfl (by decide) (by omega) ?_
          refine z_iload_n (pc' := 68) X dX6_ratio_67 rfl 3 rfl rfl ?_
          refine z_callPL (pc' := 71) (S := Unit) (As := [.long (jL (u35 7 b)), .long (jL (u35 8 b)), .int (jI which)]) (rest := []) X dX6_ratio_68 rfl (kX6_told l D E (u35 7 b) (u35 8 b) which  (by omega)) (va_cwS 3 X.1.2.2.2.2 gX6_ratio_X6_told rfl rfl rfl (by decide +kernel) ⟨Nat.le_of_ble_eq_true rfl, Nat.le_of_ble_eq_true rfl⟩) rfl rfl (Nat.le_of_ble_eq_true rfl) (fun r68 u68 hp68 => ?_)
          replace hp68 := hp68.symm; subst hp68
          exact z_lret (post := (fun (rv : Int) (uu : St) => (rv = fRatio (σ 0 0) (σ 4 0) (mA σ) (mV σ) (mB σ) (mW σ) a b which ∧ eqM uu σ))) X dX6_ratio_71 hret u35 (by first | exact ⟨by unfold fRatio; rw [if_pos (And.intro hp2 hp10), if_pos hp23, if_neg (j.2.2 h45)], hq35⟩ | exact ⟨by unfold fRatio; rw [if_pos (And.intro hp2 hp10), if_pos hp23, if_pos jj, (told_pU j7 j8).1, (told_pU j7 j8).2], hq35⟩)
        · refine z_ldc2 (pc' := 52) (x := -9) X dX6_ratio_49 rfl (by decide +kernel) rfl ?_
          refine z_goto (tgt := 71) X dX6_ratio_52 (by decide) ?_
          exact z_lret (post := (fun (rv : Int) (uu : St) => (rv = fRatio (σ 0 0) (σ 4 0) (mA σ) (mV σ) (mB σ) (mW σ) a b which ∧ eqM uu σ))) X dX6_ratio_71 hret u35 (by first | exact ⟨by unfold fRatio; rw [if_pos (And.intro hp2 hp10), if_pos hp23, if_neg (j.2.2 h45)], hq35⟩ | exact ⟨by unfold fRatio; rw [if_pos (And.intro hp2 hp10), if_pos hp23, if_pos jj, (told_pU j7 j8).1, (told_pU j7 j8).2], hq35⟩)
      · refine z_if_ne (tgt := 33) (pc' := 29) X dX6_ratio_26 (by decide) rfl (by omega) (fun h => absurd h (by decide)) (fun _ => ?_)
        refine z_ldc2 (pc' := 32) (x := -2) X dX6_ratio_29 rfl (by decide +kernel) rfl ?_
        exact z_lret (post := (fun (rv : Int) (uu : St) => (rv = fRatio (σ 0 0) (σ 4 0) (mA σ) (mV σ) (mB σ) (mW σ) a b which ∧ eqM uu σ))) X dX6_ratio_32 hret σ (⟨by unfold fRatio; rw [if_pos (And.intro hp2 hp10), if_neg hp23], eqM.rf σ⟩)
    · refine z_if_ne (tgt := 20) (pc' := 16) X dX6_ratio_13 (by decide) rfl (by omega) (fun h => absurd h (by decide)) (fun _ => ?_)
      refine z_ldc2 (pc' := 19) (x := -1) X dX6_ratio_16 rfl (by decide +kernel) rfl ?_
      exact z_lret (post := (fun (rv : Int) (uu : St) => (rv = fRatio (σ 0 0) (σ 4 0) (mA σ) (mV σ) (mB σ) (mW σ) a b which ∧ eqM uu σ))) X dX6_ratio_19 hret σ (⟨by unfold fRatio; rw [if_neg (by omega)], eqM.rf σ⟩)
  · refine z_if_eq (tgt := 16) (pc' := 8) X dX6_ratio_5 (by decide) rfl (by omega) (fun _ => ?_) (fun h => absurd h (by decide))
    refine z_ldc2 (pc' := 19) (x := -1) X dX6_ratio_16 rfl (by decide +kernel) rfl ?_
    exact z_lret (post := (fun (rv : Int) (uu : St) => (rv = fRatio (σ 0 0) (σ 4 0) (mA σ) (mV σ) (mB σ) (mW σ) a b which ∧ eqM uu σ))) X dX6_ratio_19 hret σ (⟨by unfold fRatio; rw [if_neg (by omega)], eqM.rf σ⟩)
set_option maxHeartbeats 4000000 in
set_option maxRecDepth 100000 in
theorem kX6_off (l : Launch) (D : va_G) (E : Nat → Nat) (q : Nat → Nat) (σ : St) (k which : Int) (hwf : WfM σ) (hr : (-2147483648 ≤ k ∧ k < 2147483648) ∧ (-2147483648 ≤ which ∧ which < 2147483648)) : CtL l D E yX6_off wsX6_off ({ frames := 5, cells := 0, slots := 0, locals := 139 } : Room) [.ref (q 0), .int (jI k), .int (jI which)] (MW E q σ) (MW E q) (fun (rv : Int) (uu : St) => (rv = fOff (σ 4 0) (mA σ) (mV σ) (mB σ) (mW σ) k which ∧ eqM uu σ)) := by
  refine mk_L (cc := cX6_off) (maxL := 4) (ret := some .long) (by decide) rfl (Nat.le_of_ble_eq_true rfl) ?_
  intro p e s m args below meth c A X hret
  have hin6 : ∀ x ∈ u_ws RX6 TX6 19, x ∈ wsX6_off := fun _ h => List.mem_cons_of_mem _ (List.mem_append_right _ h)
  refine z_lv (lv' := [(0, .ref (q 0)), (1, .int (jI k)), (2, .int (jI which))]) [0, 1, 2] rfl ?_
  obtain ⟨n0, n3, n4, n13⟩ := hwf.n
  refine z_aload_n (pc' := 1) X dX6_off_0 rfl 0 rfl rfl ?_
  refine z_iload_n (pc' := 2) X dX6_off_1 rfl 1 rfl rfl ?_
  refine z_callVI (pc' := 5) (S := St) (As := [.int (jI k)]) (rest := []) X dX6_off_2 rfl (kX6_isTie l D E q σ k  (hwf) (by omega)) (cwV 1 X.1.2.2.2.2 gX6_off_X6_isTie rfl rfl rfl (by decide +kernel) ⟨Nat.le_of_ble_eq_true rfl, Nat.le_of_ble_eq_true rfl⟩) 0 rfl rfl rfl rfl (Nat.le_of_ble_eq_true rfl) (fun r2 u2 hp2 => ?_)
  obtain ⟨rfl, hp2⟩ := hp2
  rcases hp2 with ⟨rfl, hp2⟩ | ⟨rfl, hp2⟩
  · refine z_if_ne (tgt := 12) (pc' := 8) X dX6_off_5 (by decide) rfl (by (first | omega | (rw [h5]; omega))) (fun _ => ?_) (fun h => absurd h (by decide))
    refine z_iload_n (pc' := 13) X dX6_off_12 rfl 2 rfl rfl ?_
    refine z_iconst (pc' := 14) X dX6_off_13 rfl ?_
    refine z_iconst (pc' := 15) X dX6_off_14 rfl ?_
    refine z_callPI (pc' := 18) (S := Unit) (As := [.int (jI which), .int (jI 0), .int (jI 1)]) (rest := []) X dX6_off_15 rfl (kX6_isIn l D E which 0 1  (by (first | omega | (rw [h5]; omega)))) (va_cwS 3 X.1.2.2.2.2 gX6_off_X6_isIn rfl rfl rfl (by decide +kernel) ⟨Nat.le_of_ble_eq_true rfl, Nat.le_of_ble_eq_true rfl⟩) rfl rfl (Nat.le_of_ble_eq_true rfl) (fun r15 u15 hp15 => ?_)
    skip
    rcases hp15 with ⟨rfl, hp15⟩ | ⟨rfl, hp15⟩
    · refine z_if_ne (tgt := 25) (pc' := 21) X dX6_off_18 (by decide) rfl (by (first | omega | (rw [h5]; omega))) (fun _ => ?_) (fun h => absurd h (by decide))
      have ht := hwf.tie (k := k) (by omega) (by omega)
      refine z_aload_n (pc' := 26) X dX6_off_25 rfl 0 rfl rfl ?_
      refine z_aload_n (pc' := 27) X dX6_off_26 rfl 0 rfl rfl ?_
      refine z_get (pc' := 30) (C := RX6) (ref := "PivotBeatsModel") (T := TX6) (N := 19) (v := .ref (q 5)) X dX6_off_27 rfl hin6 0 rfl rfl 5 (by decide) (by decide +kernel) rfl rfl ?_
      refine z_iconst (pc' := 31) X dX6_off_30 rfl ?_
      refine z_iload_n (pc' := 32) X dX6_off_31 rfl 1 rfl rfl ?_
      refine z_imul (pc' := 33) X dX6_off_32 rfl ?_
      refine z_iald (pc' := 34) (f := σ 5) (n := 60) X dX6_off_33 rfl 3 rfl (by decide) (by (first | omega | (rw [h5]; omega))) ?_
      refine z_callVV (pc' := 37) (S := St) (As := [.int (jI (σ 5 (5 * k)))]) (rest := []) X dX6_off_34 rfl (kX6_spreadAll l D E q σ (σ 5 (5 * k))  (hwf) (by omega)) (cwV 1 X.1.2.2.2.2 gX6_off_X6_spreadAll rfl rfl rfl (by decide +kernel) ⟨Nat.le_of_ble_eq_true rfl, Nat.le_of_ble_eq_true rfl⟩) 0 rfl rfl rfl rfl (Nat.le_of_ble_eq_true rfl) (fun u34 hp34 => ?_)
      obtain ⟨hq34, hs34, hd34⟩ := hp34
      have w34 := hq34.wf hwf
      have e0 : u34 0 0 = σ 0 0 := by rw [hq34.1]
      have e3 : u34 3 0 = σ 3 0 := by rw [hq34.2.2.2.1]
      have e4 : u34 4 0 = σ 4 0 := by rw [hq34.2.2.2.2.1]
      have e13 : u34 13 0 = σ 13 0 := by rw [hq34.2.2.2.2.2.2.1]
      have h5 : u34 5 = σ 5 := hq34.2.2.2.2.2.1
      have hsk : u34 6 k = jK (mA σ) (mV σ) (mB σ) (mW σ) k.toNat := srt_at hq34 hs34 (by omega)
      have jr := jK_rng (a := mA σ) (v := mV σ) (b := mB σ) (w := mW σ) k.toNat
      refine z_aload_n (pc' := 38) X dX6_off_37 rfl 0 rfl rfl ?_
      refine z_get (pc' := 41) (C := RX6) (ref := "PivotBeatsModel") (T := TX6) (N := 19) (v := .ref (q 5)) X dX6_off_38 rfl hin6 0 rfl rfl 5 (by decide) (by decide +kernel) rfl rfl ?_
      refine z_iconst (pc' := 42) X dX6_off_41 rfl ?_
      refine z_iload_n (pc' := 43) X dX6_off_42 rfl 1 rfl rfl ?_
      refine z_imul (pc' := 44) X dX6_off_43 rfl ?_
      refine z_iconst (pc' := 45) X dX6_off_44 rfl ?_
      refine z_iadd (pc' := 46) X dX6_off_45 rfl ?_
      refine z_iald (pc' := 47) (f := u34 5) (n := 60) X dX6_off_46 rfl 3 rfl (by decide) (by (first | omega | (rw [h5]; omega))) ?_
      refine z_istore_n (pc' := 48) (lv' := [(3, .int (jI (u34 5 ((5 * k) + 2)))), (0, .ref (q 0)), (1, .int (jI k)), (2, .int (jI which))]) X dX6_off_47 rfl rfl (by decide) rfl ?_
      refine z_aload_n (pc' := 49) X dX6_off_48 rfl 1 rfl rfl ?_
      refine z_get (pc' := 52) (C := RX6) (ref := "PivotBeatsModel") (T := TX6) (N := 19) (v := .ref (q 6)) X dX6_off_49 rfl hin6 0 rfl rfl 6 (by decide) (by decide +kernel) rfl rfl ?_
      refine z_iload_n (pc' := 53) X dX6_off_52 rfl 2 rfl rfl ?_
      refine z_iald (pc' := 54) (f := u34 6) (n := 12) X dX6_off_53 rfl 4 rfl (by decide) (by (first | omega | (rw [h5]; omega))) ?_
      refine z_if_ne (tgt := 61) (pc' := 57) X dX6_off_54 (by decide) rfl (by omega) (fun h54 => ?_) (fun h54 => ?_)
      · obtain ⟨jj, j7, j8, j9, jb, jc, jd⟩ := of_get hwf hq34 hd34 (by omega) (show ¬ jK (mA σ) (mV σ) (mB σ) (mW σ) k.toNat = 0 by omega)
        have ta := tk_rng ht.2.1
        have tb := tk_rng ht.2.2.2.1
        have m1 := mul_bd (a := u34 7 (u34 5 (5 * k + 2))) (b := tk (u34 5 (5 * k + 1))) (A := 68719476736) (B := 144) (by omega) (by rw [h5]; omega)
        have m2 := mul_bd1 (a := u34 8 (u34 5 (5 * k + 2))) (b := tk (u34 5 (5 * k + 3))) (A := 68719476736) (B := 144) (by omega) (by rw [h5]; omega)
        refine z_aload_n (pc' := 62) X dX6_off_61 rfl 1 rfl rfl ?_
        refine z_get (pc' := 65) (C := RX6) (ref := "PivotBeatsModel") (T := TX6) (N := 19) (v := .ref (q 7)) X dX6_off_62 rfl hin6 0 rfl rfl 7 (by decide) (by decide +kernel) rfl rfl ?_
        refine z_iload_n (pc' := 66) X dX6_off_65 rfl 0 rfl rfl ?_
        refine z_lald (pc' := 67) (f := u34 7) (n := 7) X dX6_off_66 rfl 5 rfl (by decide) (by (first | omega | (rw [h5]; omega))) ?_
        refine z_aload_n (pc' := 68) X dX6_off_67 rfl 1 rfl rfl ?_
        refine z_get (pc' := 71) (C := RX6) (ref := "PivotBeatsModel") (T := TX6) (N := 19) (v := .ref (q 5)) X dX6_off_68 rfl hin6 0 rfl rfl 5 (by decide) (by decide +kernel) rfl rfl ?_
        refine z_iconst (pc' := 72) X dX6_off_71 rfl ?_
        refine z_iload_n (pc' := 73) X dX6_off_72 rfl 2 rfl rfl ?_
        refine z_imul (pc' := 74) X dX6_off_73 rfl ?_
        refine z_iconst (pc' := 75) X dX6_off_74 rfl ?_
        refine z_iadd (pc' := 76) X dX6_off_75 rfl ?_
        refine z_iald (pc' := 77) (f := u34 5) (n := 60) X dX6_off_76 rfl 3 rfl (by decide) (by (first | omega | (rw [h5]; omega))) ?_
        refine z_callPI (pc' := 80) (S := Unit) (As := [.int (jI (u34 5 ((5 * k) + 1)))]) (rest := [.long (jL (u34 7 (u34 5 ((5 * k) + 2))))]) X dX6_off_77 rfl (kX6_ticksOf l D E (u34 5 ((5 * k) + 1))  (by (rw [h5]; omega))) (va_cwS 1 X.1.2.2.2.2 gX6_off_X6_ticksOf rfl rfl rfl (by decide +kernel) ⟨Nat.le_of_ble_eq_true rfl, Nat.le_of_ble_eq_true rfl⟩) rfl rfl (Nat.le_of_ble_eq_true rfl) (fun r77 u77 hp77 => ?_)
        replace hp77 := hp77.symm; subst hp77
        refine z_i2l (pc' := 81) X dX6_off_80 rfl (by (first | omega | (rw [h5]; omega))) ?_
        refine z_lmul (pc' := 82) X dX6_off_81 rfl ?_
        refine z_aload_n (pc' := 83) X dX6_off_82 rfl 1 rfl rfl ?_
        refine z_get (pc' := 86) (C := RX6) (ref := "PivotBeatsModel") (T := TX6) (N := 19) (v := .ref (q 8)) X dX6_off_83 rfl hin6 0 rfl rfl 8 (by decide) (by decide +kernel) rfl rfl ?_
        refine z_iload_n (pc' := 87) X dX6_off_86 rfl 0 rfl rfl ?_
        refine z_lald (pc' := 88) (f := u34 8) (n := 7) X dX6_off_87 rfl 6 rfl (by decide) (by (first | omega | (rw [h5]; omega))) ?_
        refine z_aload_n (pc' := 89) X dX6_off_88 rfl 1 rfl rfl ?_
        refine z_get (pc' := 92) (C := RX6) (ref := "PivotBeatsModel") (T := TX6) (N := 19) (v := .ref (q 5)) X dX6_off_89 rfl hin6 0 rfl rfl 5 (by decide) (by decide +kernel) rfl rfl ?_
        refine z_iconst (pc' := 93) X dX6_off_92 rfl ?_
        refine z_iload_n (pc' := 94) X dX6_off_93 rfl 2 rfl rfl ?_
        refine z_imul (pc' := 95) X dX6_off_94 rfl ?_
        refine z_iconst (pc' := 96) X dX6_off_95 rfl ?_
        refine z_iadd (pc' := 97) X dX6_off_96 rfl ?_
        refine z_iald (pc' := 98) (f := u34 5) (n := 60) X dX6_off_97 rfl 3 rfl (by decide) (by (first | omega | (rw [h5]; omega))) ?_
        refine z_callPI (pc' := 101) (S := Unit) (As := [.int (jI (u34 5 ((5 * k) + 3)))]) (rest := [.long (jL (u34 8 (u34 5 ((5 * k) + 2)))), .long (jL ((u34 7 (u34 5 ((5 * k) + 2))) * (tk (u34 5 ((5 * k) + 1)))))]) X dX6_off_98 rfl (kX6_ticksOf l D E (u34 5 ((5 * k) + 3))  (by (rw [h5]; omega))) (va_cwS 1 X.1.2.2.2.2 gX6_off_X6_ticksOf rfl rfl rfl (by decide +kernel) ⟨Nat.le_of_ble_eq_true rfl, Nat.le_of_ble_eq_true rfl⟩) rfl rfl (Nat.le_of_ble_eq_true rfl) (fun r98 u98 hp98 => ?_)
        replace hp98 := hp98.symm; subst hp98
        refine z_i2l (pc' := 102) X dX6_off_101 rfl (by (first | omega | (rw [h5]; omega))) ?_
        refine z_lmul (pc' := 103) X dX6_off_102 rfl ?_
        refine z_iload_n (pc' := 104) X dX6_off_103 rfl 3 rfl rfl ?_
        refine z_callPL (pc' := 107) (S := Unit) (As := [.long (jL ((u34 7 (u34 5 ((5 * k) + 2))) * (tk (u34 5 ((5 * k) + 1))))), .long (jL ((u34 8 (u34 5 ((5 * k) + 2))) * (tk (u34 5 ((5 * k) + 3))))), .int (jI which)]) (rest := []) X dX6_off_104 rfl (kX6_told l D E ((u34 7 (u34 5 ((5 * k) + 2))) * (tk (u34 5 ((5 * k) + 1)))) ((u34 8 (u34 5 ((5 * k) + 2))) * (tk (u34 5 ((5 * k) + 3)))) which  (by omega)) (va_cwS 3 X.1.2.2.2.2 gX6_off_X6_told rfl rfl rfl (by decide +kernel) ⟨Nat.le_of_ble_eq_true rfl, Nat.le_of_ble_eq_true rfl⟩) rfl rfl (Nat.le_of_ble_eq_true rfl) (fun r104 u104 hp104 => ?_)
        replace hp104 := hp104.symm; subst hp104
        exact z_lret (post := (fun (rv : Int) (uu : St) => (rv = fOff (σ 4 0) (mA σ) (mV σ) (mB σ) (mW σ) k which ∧ eqM uu σ))) X dX6_off_107 hret u34 (⟨by unfold fOff; rw [if_pos hp2, if_pos hp15, if_neg (show ¬ jK (mA σ) (mV σ) (mB σ) (mW σ) k.toNat = 0 by omega)]; rw [(of_red hwf hp2 h5 j7 j8).1, (of_red hwf hp2 h5 j7 j8).2], hq34⟩)
      · refine z_ldc2 (pc' := 60) (x := -9) X dX6_off_57 rfl (by decide +kernel) rfl ?_
        exact z_lret (post := (fun (rv : Int) (uu : St) => (rv = fOff (σ 4 0) (mA σ) (mV σ) (mB σ) (mW σ) k which ∧ eqM uu σ))) X dX6_off_60 hret u34 (⟨by unfold fOff; rw [if_pos hp2, if_pos hp15, if_pos (show jK (mA σ) (mV σ) (mB σ) (mW σ) k.toNat = 0 by omega)], hq34⟩)
    · refine z_if_ne (tgt := 25) (pc' := 21) X dX6_off_18 (by decide) rfl (by (first | omega | (rw [h5]; omega))) (fun h => absurd h (by decide)) (fun _ => ?_)
      refine z_ldc2 (pc' := 24) (x := -2) X dX6_off_21 rfl (by decide +kernel) rfl ?_
      exact z_lret (post := (fun (rv : Int) (uu : St) => (rv = fOff (σ 4 0) (mA σ) (mV σ) (mB σ) (mW σ) k which ∧ eqM uu σ))) X dX6_off_24 hret σ (⟨by unfold fOff; rw [if_pos hp2, if_neg hp15], eqM.rf σ⟩)
  · refine z_if_ne (tgt := 12) (pc' := 8) X dX6_off_5 (by decide) rfl (by (first | omega | (rw [h5]; omega))) (fun h => absurd h (by decide)) (fun _ => ?_)
    refine z_ldc2 (pc' := 11) (x := -1) X dX6_off_8 rfl (by decide +kernel) rfl ?_
    exact z_lret (post := (fun (rv : Int) (uu : St) => (rv = fOff (σ 4 0) (mA σ) (mV σ) (mB σ) (mW σ) k which ∧ eqM uu σ))) X dX6_off_11 hret σ (⟨by unfold fOff; rw [if_neg hp2], eqM.rf σ⟩)
set_option maxHeartbeats 4000000 in
set_option maxRecDepth 100000 in
theorem kX6_ring (l : Launch) (D : va_G) (E : Nat → Nat) (q : Nat → Nat) (σ : St) (k : Int) (hwf : WfM σ) (hr : (-2147483648 ≤ k ∧ k < 2147483648)) : CtI l D E yX6_ring wsX6_ring ({ frames := 5, cells := 0, slots := 0, locals := 139 } : Room) [.ref (q 0), .int (jI k)] (MW E q σ) (MW E q) (fun (rv : Int) (uu : St) => (rv = fRing (σ 4 0) (mA σ) (mV σ) (mB σ) (mW σ) k ∧ eqM uu σ)) := by
  refine mk_I (cc := cX6_ring) (maxL := 2) (ret := some .int) (by decide) rfl (Nat.le_of_ble_eq_true rfl) ?_
  intro p e s m args below meth c A X hret
  have hin6 : ∀ x ∈ u_ws RX6 TX6 19, x ∈ wsX6_ring := fun _ h => List.mem_cons_of_mem _ (List.mem_append_right _ h)
  refine z_lv (lv' := [(0, .ref (q 0)), (1, .int (jI k))]) [0, 1] rfl ?_
  obtain ⟨n0, n3, n4, n13⟩ := hwf.n
  refine z_aload_n (pc' := 1) X dX6_ring_0 rfl 0 rfl rfl ?_
  refine z_iload_n (pc' := 2) X dX6_ring_1 rfl 1 rfl rfl ?_
  refine z_callVI (pc' := 5) (S := St) (As := [.int (jI k)]) (rest := []) X dX6_ring_2 rfl (kX6_isTie l D E q σ k  (hwf) (by omega)) (cwV 1 X.1.2.2.2.2 gX6_ring_X6_isTie rfl rfl rfl (by decide +kernel) ⟨Nat.le_of_ble_eq_true rfl, Nat.le_of_ble_eq_true rfl⟩) 0 rfl rfl rfl rfl (Nat.le_of_ble_eq_true rfl) (fun r2 u2 hp2 => ?_)
  obtain ⟨rfl, hp2⟩ := hp2
  rcases hp2 with ⟨rfl, hp2⟩ | ⟨rfl, hp2⟩
  · refine z_if_ne (tgt := 10) (pc' := 8) X dX6_ring_5 (by decide) rfl (by (first | omega | (rw [h5]; omega))) (fun _ => ?_) (fun h => absurd h (by decide))
    have ht := hwf.tie (k := k) (by omega) (by omega)
    refine z_aload_n (pc' := 11) X dX6_ring_10 rfl 0 rfl rfl ?_
    refine z_aload_n (pc' := 12) X dX6_ring_11 rfl 0 rfl rfl ?_
    refine z_get (pc' := 15) (C := RX6) (ref := "PivotBeatsModel") (T := TX6) (N := 19) (v := .ref (q 5)) X dX6_ring_12 rfl hin6 0 rfl rfl 5 (by decide) (by decide +kernel) rfl rfl ?_
    refine z_iconst (pc' := 16) X dX6_ring_15 rfl ?_
    refine z_iload_n (pc' := 17) X dX6_ring_16 rfl 1 rfl rfl ?_
    refine z_imul (pc' := 18) X dX6_ring_17 rfl ?_
    refine z_iald (pc' := 19) (f := σ 5) (n := 60) X dX6_ring_18 rfl 3 rfl (by decide) (by (first | omega | (rw [h5]; omega))) ?_
    refine z_callVV (pc' := 22) (S := St) (As := [.int (jI (σ 5 (5 * k)))]) (rest := []) X dX6_ring_19 rfl (kX6_spreadAll l D E q σ (σ 5 (5 * k))  (hwf) (by omega)) (cwV 1 X.1.2.2.2.2 gX6_ring_X6_spreadAll rfl rfl rfl (by decide +kernel) ⟨Nat.le_of_ble_eq_true rfl, Nat.le_of_ble_eq_true rfl⟩) 0 rfl rfl rfl rfl (Nat.le_of_ble_eq_true rfl) (fun u19 hp19 => ?_)
    obtain ⟨hq19, hs19, hd19⟩ := hp19
    have w19 := hq19.wf hwf
    have e0 : u19 0 0 = σ 0 0 := by rw [hq19.1]
    have e3 : u19 3 0 = σ 3 0 := by rw [hq19.2.2.2.1]
    have e4 : u19 4 0 = σ 4 0 := by rw [hq19.2.2.2.2.1]
    have e13 : u19 13 0 = σ 13 0 := by rw [hq19.2.2.2.2.2.2.1]
    have h5 : u19 5 = σ 5 := hq19.2.2.2.2.2.1
    have hsk : u19 6 k = jK (mA σ) (mV σ) (mB σ) (mW σ) k.toNat := srt_at hq19 hs19 (by omega)
    have jr := jK_rng (a := mA σ) (v := mV σ) (b := mB σ) (w := mW σ) k.toNat
    refine z_aload_n (pc' := 23) X dX6_ring_22 rfl 0 rfl rfl ?_
    refine z_get (pc' := 26) (C := RX6) (ref := "PivotBeatsModel") (T := TX6) (N := 19) (v := .ref (q 6)) X dX6_ring_23 rfl hin6 0 rfl rfl 6 (by decide) (by decide +kernel) rfl rfl ?_
    refine z_iload_n (pc' := 27) X dX6_ring_26 rfl 1 rfl rfl ?_
    refine z_iald (pc' := 28) (f := u19 6) (n := 12) X dX6_ring_27 rfl 4 rfl (by decide) (by (first | omega | (rw [h5]; omega))) ?_
    refine z_if_ne (tgt := 36) (pc' := 31) X dX6_ring_28 (by decide) rfl (by (first | omega | (rw [h5]; omega))) (fun h28 => ?_) (fun h28 => ?_)
    · obtain ⟨jj, j7, j8, j9, jb, jc, jd⟩ := of_get hwf hq19 hd19 (by omega) (show ¬ jK (mA σ) (mV σ) (mB σ) (mW σ) k.toNat = 0 by omega)
      have hs1 := iShl1_rng (k := k) (by omega)
      refine z_aload_n (pc' := 37) X dX6_ring_36 rfl 0 rfl rfl ?_
      refine z_get (pc' := 40) (C := RX6) (ref := "PivotBeatsModel") (T := TX6) (N := 19) (v := .ref (q 9)) X dX6_ring_37 rfl hin6 0 rfl rfl 9 (by decide) (by decide +kernel) rfl rfl ?_
      refine z_aload_n (pc' := 41) X dX6_ring_40 rfl 0 rfl rfl ?_
      refine z_get (pc' := 44) (C := RX6) (ref := "PivotBeatsModel") (T := TX6) (N := 19) (v := .ref (q 5)) X dX6_ring_41 rfl hin6 0 rfl rfl 5 (by decide) (by decide +kernel) rfl rfl ?_
      refine z_iconst (pc' := 45) X dX6_ring_44 rfl ?_
      refine z_iload_n (pc' := 46) X dX6_ring_45 rfl 1 rfl rfl ?_
      refine z_imul (pc' := 47) X dX6_ring_46 rfl ?_
      refine z_iconst (pc' := 48) X dX6_ring_47 rfl ?_
      refine z_iadd (pc' := 49) X dX6_ring_48 rfl ?_
      refine z_iald (pc' := 50) (f := u19 5) (n := 60) X dX6_ring_49 rfl 3 rfl (by decide) (by (first | omega | (rw [h5]; omega))) ?_
      refine z_iald (pc' := 51) (f := u19 9) (n := 7) X dX6_ring_50 rfl 7 rfl (by decide) (by (first | omega | (rw [h5]; omega))) ?_
      refine z_iconst (pc' := 52) X dX6_ring_51 rfl ?_
      refine z_iload_n (pc' := 53) X dX6_ring_52 rfl 1 rfl rfl ?_
      refine z_ishl (pc' := 54) X dX6_ring_53 rfl (by (first | omega | (rw [h5]; omega))) ?_
      refine z_ior (pc' := 55) X dX6_ring_54 rfl (by (first | omega | (rw [h5]; omega))) ?_
      exact z_iret (post := (fun (rv : Int) (uu : St) => (rv = fRing (σ 4 0) (mA σ) (mV σ) (mB σ) (mW σ) k ∧ eqM uu σ))) X dX6_ring_55 hret u19 (by first | exact ⟨by unfold fRing; rw [if_pos hp2, if_pos (by omega)], hq19⟩ | exact ⟨by unfold fRing; rw [if_pos hp2, if_neg (by omega), j9], hq19⟩)
    · refine z_bipush (pc' := 33) X dX6_ring_31 rfl rfl ?_
      refine z_goto (tgt := 55) X dX6_ring_33 (by decide) ?_
      exact z_iret (post := (fun (rv : Int) (uu : St) => (rv = fRing (σ 4 0) (mA σ) (mV σ) (mB σ) (mW σ) k ∧ eqM uu σ))) X dX6_ring_55 hret u19 (by first | exact ⟨by unfold fRing; rw [if_pos hp2, if_pos (by omega)], hq19⟩ | exact ⟨by unfold fRing; rw [if_pos hp2, if_neg (by omega), j9], hq19⟩)
  · refine z_if_ne (tgt := 10) (pc' := 8) X dX6_ring_5 (by decide) rfl (by (first | omega | (rw [h5]; omega))) (fun h => absurd h (by decide)) (fun _ => ?_)
    refine z_iconst (pc' := 9) X dX6_ring_8 rfl ?_
    exact z_iret (post := (fun (rv : Int) (uu : St) => (rv = fRing (σ 4 0) (mA σ) (mV σ) (mB σ) (mW σ) k ∧ eqM uu σ))) X dX6_ring_9 hret σ (⟨by unfold fRing; rw [if_neg hp2], eqM.rf σ⟩)
