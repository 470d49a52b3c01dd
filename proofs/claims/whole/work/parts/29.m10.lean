section FPL
variable (nS : Int) (pn : Int → Int) (nT : Int) (a v b w er : Int → Int) (nM : Int) (mk : Int → Int)
/-- the first best play G, of harm x -/
def FBx (G : Int → Int) (x : Int) : Prop := FBP nS nM (pinF mk nM pn) (HC nT.toNat a v b w er mk) (fun t => jS a v b w nT.toNat 0 t = jS a v b w nT.toNat 0 0) G x
def fHarm (rv : Int) : Prop := ((nS = 0 ∨ nM = 0) ∧ rv = -9) ∨ ((¬ nS = 0 ∧ ¬ nM = 0) ∧ ∃ G, FBx nS pn nT a v b w er nM mk G rv)
def fPlay (s rv : Int) : Prop := (¬ (0 ≤ s ∧ s < nS) ∧ rv = -1) ∨ ((0 ≤ s ∧ s < nS) ∧ nM = 0 ∧ rv = -9) ∨ ((0 ≤ s ∧ s < nS) ∧ ¬ nM = 0 ∧ ¬ jS a v b w nT.toNat 0 s = jS a v b w nT.toNat 0 0 ∧ rv = -9) ∨ ((0 ≤ s ∧ s < nS) ∧ ¬ nM = 0 ∧ jS a v b w nT.toNat 0 s = jS a v b w nT.toNat 0 0 ∧ ∃ G x, FBx nS pn nT a v b w er nM mk G x ∧ rv = mk (G s))
def fDrift (k rv : Int) : Prop := (¬ (0 ≤ k ∧ k < nT) ∧ rv = -1) ∨ ((0 ≤ k ∧ k < nT) ∧ nM = 0 ∧ rv = -9) ∨ ((0 ≤ k ∧ k < nT) ∧ ¬ nM = 0 ∧ ¬ (jS a v b w nT.toNat 0 (a k) = jS a v b w nT.toNat 0 0 ∧ jS a v b w nT.toNat 0 (b k) = jS a v b w nT.toNat 0 0) ∧ rv = -9) ∨ ((0 ≤ k ∧ k < nT) ∧ ¬ nM = 0 ∧ (jS a v b w nT.toNat 0 (a k) = jS a v b w nT.toNat 0 0 ∧ jS a v b w nT.toNat 0 (b k) = jS a v b w nT.toNat 0 0) ∧ ∃ G x, FBx nS pn nT a v b w er nM mk G x ∧ rv = drF v w k (mk (G (a k))) (mk (G (b k))))
end FPL
theorem ha_eq {σ u : St} {xh x : Int} (hq : eqM u σ) (hf : FPs (σ 0 0) (σ 13 0) (pinF (σ 14) (σ 13 0) (σ 2)) (HC (σ 4 0).toNat (mA σ) (mV σ) (mB σ) (mW σ) (mE σ) (σ 14)) (fun t => jS (mA σ) (mV σ) (mB σ) (mW σ) (σ 4 0).toNat 0 t = jS (mA σ) (mV σ) (mB σ) (mW σ) (σ 4 0).toNat 0 0) xh (σ 0 0) (u 15)) (hm : MinH (u 0 0) (u 13 0) (u 15) (HC (u 4 0).toNat (mA u) (mV u) (mB u) (mW u) (mE u) (u 14)) x) : x = xh := by
  rw [HC_eq hq, hq.1, hq.2.2.2.2.2.2.1] at hm
  exact MinH_one hm hf.2.2.2.2.2.1
theorem ha_q {u1 u σ : St} (h : ∀ F, F ≠ 16 → u1 F = u F) (hq : eqM u σ) : eqM u1 σ := (fpq (fun F _ b => h F b)).tr hq
theorem pl_u {σ u : St} {xh s : Int} (hwf : WfM σ) (hq : eqM u σ) (hd : SPD u (σ 4 0) 0) (hf : FPs (σ 0 0) (σ 13 0) (pinF (σ 14) (σ 13 0) (σ 2)) (HC (σ 4 0).toNat (mA σ) (mV σ) (mB σ) (mW σ) (mE σ) (σ 14)) (fun t => jS (mA σ) (mV σ) (mB σ) (mW σ) (σ 4 0).toNat 0 t = jS (mA σ) (mV σ) (mB σ) (mW σ) (σ 4 0).toNat 0 0) xh (σ 0 0) (u 15)) (hs : 0 ≤ s ∧ s < σ 0 0) : (0 ≤ u 7 s ∧ u 7 s ≤ 68719476736) ∧ (¬ u 7 s = 0 → 0 ≤ u 15 s ∧ u 15 s < u 13 0) := by
  have n0 := hwf.n.1
  have j := sp_get hwf hq hd (by omega) (x := s) (by omega)
  refine ⟨j.1, fun q => ?_⟩
  have := hf.2.2.2.1 s hs.1 hs.2 hs.2 (j.2.1 q).1
  rw [hq.2.2.2.2.2.2.1]
  exact this
theorem pl_r {σ u : St} {xh s : Int} (hwf : WfM σ) (hq : eqM u σ) (hd : SPD u (σ 4 0) 0) (hf : FPs (σ 0 0) (σ 13 0) (pinF (σ 14) (σ 13 0) (σ 2)) (HC (σ 4 0).toNat (mA σ) (mV σ) (mB σ) (mW σ) (mE σ) (σ 14)) (fun t => jS (mA σ) (mV σ) (mB σ) (mW σ) (σ 4 0).toNat 0 t = jS (mA σ) (mV σ) (mB σ) (mW σ) (σ 4 0).toNat 0 0) xh (σ 0 0) (u 15)) (hs : 0 ≤ s ∧ s < σ 0 0) (hM : ¬ σ 13 0 = 0) : fPlay (σ 0 0) (σ 2) (σ 4 0) (mA σ) (mV σ) (mB σ) (mW σ) (mE σ) (σ 13 0) (σ 14) s (if u 7 s = 0 then -9 else u 14 (u 15 s)) := by
  have n0 := hwf.n.1
  have j := sp_get hwf hq hd (by omega) (x := s) (by omega)
  by_cases q : u 7 s = 0
  · rw [if_pos q]
    exact Or.inr (Or.inr (Or.inl ⟨hs, hM, j.2.2 q, rfl⟩))
  · rw [if_neg q]
    exact Or.inr (Or.inr (Or.inr ⟨hs, hM, (j.2.1 q).1, u 15, xh, FP_end hf, by rw [hq.2.2.2.2.2.2.2]⟩))
theorem dr_rng {σ u : St} {xh x r : Int} (hwf : WfM σ) (hq : eqM u σ) (hd : SPD u (σ 4 0) 0) (hf : FPs (σ 0 0) (σ 13 0) (pinF (σ 14) (σ 13 0) (σ 2)) (HC (σ 4 0).toNat (mA σ) (mV σ) (mB σ) (mW σ) (mE σ) (σ 14)) (fun t => jS (mA σ) (mV σ) (mB σ) (mW σ) (σ 4 0).toNat 0 t = jS (mA σ) (mV σ) (mB σ) (mW σ) (σ 4 0).toNat 0 0) xh (σ 0 0) (u 15)) (hs : 0 ≤ x ∧ x < σ 0 0) (e : r = if u 7 x = 0 then -9 else u 14 (u 15 x)) : r = -9 ∨ (20 ≤ r ∧ r ≤ 400) := by
  have hu := pl_u hwf hq hd hf hs
  by_cases q : u 7 x = 0
  · rw [if_pos q] at e; exact Or.inl e
  · rw [if_neg q] at e
    have h := hu.2 q
    have := (hq.wf hwf).2.2.2.2.2.2.2.1 (u 15 x) h.1 h.2
    omega
theorem dr_9 {σ u : St} {xh k r1 r2 : Int} (hwf : WfM σ) (hq : eqM u σ) (hd : SPD u (σ 4 0) 0) (hf : FPs (σ 0 0) (σ 13 0) (pinF (σ 14) (σ 13 0) (σ 2)) (HC (σ 4 0).toNat (mA σ) (mV σ) (mB σ) (mW σ) (mE σ) (σ 14)) (fun t => jS (mA σ) (mV σ) (mB σ) (mW σ) (σ 4 0).toNat 0 t = jS (mA σ) (mV σ) (mB σ) (mW σ) (σ 4 0).toNat 0 0) xh (σ 0 0) (u 15)) (hk : 0 ≤ k ∧ k < σ 4 0) (hM : ¬ σ 13 0 = 0) (h5 : u 5 = σ 5) (e1 : r1 = if u 7 (u 5 (5 * k)) = 0 then -9 else u 14 (u 15 (u 5 (5 * k)))) (e2 : r2 = if u 7 (u 5 (5 * k + 2)) = 0 then -9 else u 14 (u 15 (u 5 (5 * k + 2)))) (h9 : r1 = -9 ∨ r2 = -9) : fDrift (σ 0 0) (σ 2) (σ 4 0) (mA σ) (mV σ) (mB σ) (mW σ) (mE σ) (σ 13 0) (σ 14) k (-9) := by
  have n0 := hwf.n.1
  have ht := hwf.tie (k := k) hk.1 hk.2
  rw [h5] at e1 e2
  have u1 := pl_u hwf hq hd hf ht.1
  have u2 := pl_u hwf hq hd hf ht.2.2.1
  have j1 := sp_get hwf hq hd (by omega) (x := σ 5 (5 * k)) (by omega)
  have j2 := sp_get hwf hq hd (by omega) (x := σ 5 (5 * k + 2)) (by omega)
  refine Or.inr (Or.inr (Or.inl ⟨hk, hM, fun z => ?_, rfl⟩))
  have z1 : ¬ u 7 (σ 5 (5 * k)) = 0 := fun q => j1.2.2 q z.1
  have z2 : ¬ u 7 (σ 5 (5 * k + 2)) = 0 := fun q => j2.2.2 q z.2
  rw [if_neg z1] at e1
  rw [if_neg z2] at e2
  have b1 := (hq.wf hwf).2.2.2.2.2.2.2.1 _ (u1.2 z1).1 (u1.2 z1).2
  have b2 := (hq.wf hwf).2.2.2.2.2.2.2.1 _ (u2.2 z2).1 (u2.2 z2).2
  omega
theorem dr_k {σ u : St} {xh k r1 r2 : Int} (hwf : WfM σ) (hq : eqM u σ) (hd : SPD u (σ 4 0) 0) (hf : FPs (σ 0 0) (σ 13 0) (pinF (σ 14) (σ 13 0) (σ 2)) (HC (σ 4 0).toNat (mA σ) (mV σ) (mB σ) (mW σ) (mE σ) (σ 14)) (fun t => jS (mA σ) (mV σ) (mB σ) (mW σ) (σ 4 0).toNat 0 t = jS (mA σ) (mV σ) (mB σ) (mW σ) (σ 4 0).toNat 0 0) xh (σ 0 0) (u 15)) (hk : 0 ≤ k ∧ k < σ 4 0) (hM : ¬ σ 13 0 = 0) (h5 : u 5 = σ 5) (e1 : r1 = if u 7 (u 5 (5 * k)) = 0 then -9 else u 14 (u 15 (u 5 (5 * k)))) (e2 : r2 = if u 7 (u 5 (5 * k + 2)) = 0 then -9 else u 14 (u 15 (u 5 (5 * k + 2)))) (h1 : ¬ r1 = -9) (h2 : ¬ r2 = -9) : fDrift (σ 0 0) (σ 2) (σ 4 0) (mA σ) (mV σ) (mB σ) (mW σ) (mE σ) (σ 13 0) (σ 14) k (drF (mV u) (mW u) k r1 r2) := by
  have n0 := hwf.n.1
  have ht := hwf.tie (k := k) hk.1 hk.2
  rw [h5] at e1 e2
  have j1 := sp_get hwf hq hd (by omega) (x := σ 5 (5 * k)) (by omega)
  have j2 := sp_get hwf hq hd (by omega) (x := σ 5 (5 * k + 2)) (by omega)
  have z1 : ¬ u 7 (σ 5 (5 * k)) = 0 := fun q => h1 (by rw [e1, if_pos q])
  have z2 : ¬ u 7 (σ 5 (5 * k + 2)) = 0 := fun q => h2 (by rw [e2, if_pos q])
  rw [if_neg z1, hq.2.2.2.2.2.2.2] at e1
  rw [if_neg z2, hq.2.2.2.2.2.2.2] at e2
  exact Or.inr (Or.inr (Or.inr ⟨hk, hM, ⟨(j1.2.1 z1).1, (j2.2.1 z2).1⟩, u 15, xh, FP_end hf, by rw [hq.ties.2.1, hq.ties.2.2.2.1, e1, e2]; rfl⟩))

set_option maxHeartbeats 4000000 in
set_option maxRecDepth 100000 in
theorem kX6_harm (l : Launch) (D : va_G) (E : Nat → Nat) (q : Nat → Nat) (σ : St) (hwf : WfM σ) : CtI l D E yX6_harm wsX6_harm ({ frames := 6, cells := 0, slots := 0, locals := 161 } : Room) [.ref (q 0)] (MW E q σ) (MW E q) (fun (rv : Int) (uu : St) => (fHarm (σ 0 0) (σ 2) (σ 4 0) (mA σ) (mV σ) (mB σ) (mW σ) (mE σ) (σ 13 0) (σ 14) rv ∧ eqM uu σ)) := by
  refine mk_I (cc := cX6_harm) (maxL := 1) (ret := some .int) (by decide) rfl (Nat.le_of_ble_eq_true rfl) ?_
  intro p e s m args below meth c A X hret
  have hin6 : ∀ x ∈ u_ws RX6 TX6 19, x ∈ wsX6_harm := fun _ h => List.mem_cons_of_mem _ (List.mem_append_right _ h)
  refine z_lv (lv' := [(0, .ref (q 0))]) [0] rfl ?_
  obtain ⟨n0, n3, n4, n13⟩ := hwf.n
  refine z_aload_n (pc' := 1) X dX6_harm_0 rfl 0 rfl rfl ?_
  refine z_callVI (pc' := 4) (S := St) (As := []) (rest := []) X dX6_harm_1 rfl (kX6_findPlay l D E q σ   (hwf)) (cwV 0 X.1.2.2.2.2 gX6_harm_X6_findPlay rfl rfl rfl (by decide +kernel) ⟨Nat.le_of_ble_eq_true rfl, Nat.le_of_ble_eq_true rfl⟩) 0 rfl rfl rfl rfl (Nat.le_of_ble_eq_true rfl) (fun r1 u1 hp1 => ?_)
  rcases hp1 with ⟨rfl, hne1, ⟨hq1, hd1⟩, xh1, hfp1⟩ | ⟨rfl, hz1, hus1⟩
  · refine z_if_eq (tgt := 14) (pc' := 7) X dX6_harm_4 (by decide) rfl (by omega) (fun h => absurd h (by decide)) (fun _ => ?_)
    refine z_aload_n (pc' := 8) X dX6_harm_7 rfl 0 rfl rfl ?_
    refine z_callVI (pc' := 11) (S := St) (As := []) (rest := []) X dX6_harm_8 rfl (kX6_leastHarm l D E q u1   (hq1.wf hwf) (by rw [hq1.2.2.2.2.1]; exact hd1) (by rw [hq1.1, hq1.2.2.2.2.2.2.1]; omega) (by rw [hq1.1, hq1.2.2.2.2.2.2.1]; exact FP_rng hfp1)) (cwV 0 X.1.2.2.2.2 gX6_harm_X6_leastHarm rfl rfl rfl (by decide +kernel) ⟨Nat.le_of_ble_eq_true rfl, Nat.le_of_ble_eq_true rfl⟩) 0 rfl rfl rfl rfl (Nat.le_of_ble_eq_true rfl) (fun r8 u8 hp8 => ?_)
    obtain ⟨hn8, hmin8, hb8⟩ := hp8
    refine z_goto (tgt := 16) X dX6_harm_11 (by decide) ?_
    exact z_iret (post := (fun (rv : Int) (uu : St) => (fHarm (σ 0 0) (σ 2) (σ 4 0) (mA σ) (mV σ) (mB σ) (mW σ) (mE σ) (σ 13 0) (σ 14) rv ∧ eqM uu σ))) X dX6_harm_16 hret u8 (by first | exact ⟨Or.inr ⟨hne1, _, by rw [ha_eq hq1 hfp1 hmin8]; exact FP_end hfp1⟩, ha_q hn8 hq1⟩ | exact ⟨Or.inl ⟨hz1, rfl⟩, by rw [hus1]; exact eqM.rf σ⟩)
  · refine z_if_eq (tgt := 14) (pc' := 7) X dX6_harm_4 (by decide) rfl (by omega) (fun _ => ?_) (fun h => absurd h (by decide))
    refine z_bipush (pc' := 16) X dX6_harm_14 rfl rfl ?_
    exact z_iret (post := (fun (rv : Int) (uu : St) => (fHarm (σ 0 0) (σ 2) (σ 4 0) (mA σ) (mV σ) (mB σ) (mW σ) (mE σ) (σ 13 0) (σ 14) rv ∧ eqM uu σ))) X dX6_harm_16 hret u1 (by first | exact ⟨Or.inr ⟨hne1, _, by rw [ha_eq hq1 hfp1 hmin8]; exact FP_end hfp1⟩, ha_q hn8 hq1⟩ | exact ⟨Or.inl ⟨hz1, rfl⟩, by rw [hus1]; exact eqM.rf σ⟩)
set_option maxHeartbeats 4000000 in
set_option maxRecDepth 100000 in
theorem kX6_markBy (l : Launch) (D : va_G) (E : Nat → Nat) (q : Nat → Nat) (σ : St) (s_ : Int) (hwf : WfM σ) (hs : 0 ≤ s_ ∧ s_ < 7) (hu : (0 ≤ σ 7 s_ ∧ σ 7 s_ ≤ 68719476736) ∧ (¬ σ 7 s_ = 0 → 0 ≤ σ 15 s_ ∧ σ 15 s_ < σ 13 0)) : CtI l D E yX6_markBy wsX6_markBy ({ frames := 0, cells := 0, slots := 0, locals := 0 } : Room) [.ref (q 0), .int (jI s_)] (MW E q σ) (MW E q) (fun (rv : Int) (uu : St) => σ = uu ∧ rv = (if σ 7 s_ = 0 then -9 else σ 14 (σ 15 s_))) := by
  refine mk_I (cc := cX6_markBy) (maxL := 2) (ret := some .int) (by decide) rfl (Nat.le_of_ble_eq_true rfl) ?_
  intro p e s m args below meth c A X hret
  have hin6 : ∀ x ∈ u_ws RX6 TX6 19, x ∈ wsX6_markBy := fun _ h => List.mem_cons_of_mem _ (List.mem_append_right _ h)
  refine z_lv (lv' := [(0, .ref (q 0)), (1, .int (jI s_))]) [0, 1] rfl ?_
  obtain ⟨n0, n3, n4, n13⟩ := hwf.n
  refine z_aload_n (pc' := 1) X dX6_markBy_0 rfl 0 rfl rfl ?_
  refine z_get (pc' := 4) (C := RX6) (ref := "PivotBeatsModel") (T := TX6) (N := 19) (v := .ref (q 7)) X dX6_markBy_1 rfl hin6 0 rfl rfl 7 (by decide) (by decide +kernel) rfl rfl ?_
  refine z_iload_n (pc' := 5) X dX6_markBy_4 rfl 1 rfl rfl ?_
  refine z_lald (pc' := 6) (f := σ 7) (n := 7) X dX6_markBy_5 rfl 5 rfl (by decide) (by omega) ?_
  refine z_lconst (pc' := 7) (x := 0) X dX6_markBy_6 rfl rfl ?_
  refine z_lcmp_ne (tgt := 16) (pc' := 11) X dX6_markBy_7 (pc1 := 8) rfl dX6_markBy_8 (by decide) rfl (by omega) (fun h7 => ?_) (fun h7 => ?_)
  · refine z_aload_n (pc' := 17) X dX6_markBy_16 rfl 0 rfl rfl ?_
    refine z_get (pc' := 20) (C := RX6) (ref := "PivotBeatsModel") (T := TX6) (N := 19) (v := .ref (q 14)) X dX6_markBy_17 rfl hin6 0 rfl rfl 14 (by decide) (by decide +kernel) rfl rfl ?_
    refine z_aload_n (pc' := 21) X dX6_markBy_20 rfl 0 rfl rfl ?_
    refine z_get (pc' := 24) (C := RX6) (ref := "PivotBeatsModel") (T := TX6) (N := 19) (v := .ref (q 15)) X dX6_markBy_21 rfl hin6 0 rfl rfl 15 (by decide) (by decide +kernel) rfl rfl ?_
    refine z_iload_n (pc' := 25) X dX6_markBy_24 rfl 1 rfl rfl ?_
    refine z_iald (pc' := 26) (f := σ 15) (n := 7) X dX6_markBy_25 rfl 11 rfl (by decide) (by omega) ?_
    refine z_iald (pc' := 27) (f := σ 14) (n := 16) X dX6_markBy_26 rfl 10 rfl (by decide) (by omega) ?_
    exact z_iret (post := (fun (rv : Int) (uu : St) => σ = uu ∧ rv = (if σ 7 s_ = 0 then -9 else σ 14 (σ 15 s_)))) X dX6_markBy_27 hret σ (⟨rfl, by first | (rw [if_pos h7]; done) | (rw [if_neg h7]; done)⟩)
  · refine z_bipush (pc' := 13) X dX6_markBy_11 rfl rfl ?_
    refine z_goto (tgt := 27) X dX6_markBy_13 (by decide) ?_
    exact z_iret (post := (fun (rv : Int) (uu : St) => σ = uu ∧ rv = (if σ 7 s_ = 0 then -9 else σ 14 (σ 15 s_)))) X dX6_markBy_27 hret σ (⟨rfl, by first | (rw [if_pos h7]; done) | (rw [if_neg h7]; done)⟩)
set_option maxHeartbeats 4000000 in
set_option maxRecDepth 100000 in
theorem kX6_play (l : Launch) (D : va_G) (E : Nat → Nat) (q : Nat → Nat) (σ : St) (s_ : Int) (hwf : WfM σ) (hr : (-2147483648 ≤ s_ ∧ s_ < 2147483648)) : CtI l D E yX6_play wsX6_play ({ frames := 6, cells := 0, slots := 0, locals := 161 } : Room) [.ref (q 0), .int (jI s_)] (MW E q σ) (MW E q) (fun (rv : Int) (uu : St) => (fPlay (σ 0 0) (σ 2) (σ 4 0) (mA σ) (mV σ) (mB σ) (mW σ) (mE σ) (σ 13 0) (σ 14) s_ rv ∧ eqM uu σ)) := by
  refine mk_I (cc := cX6_play) (maxL := 2) (ret := some .int) (by decide) rfl (Nat.le_of_ble_eq_true rfl) ?_
  intro p e s m args below meth c A X hret
  have hin6 : ∀ x ∈ u_ws RX6 TX6 19, x ∈ wsX6_play := fun _ h => List.mem_cons_of_mem _ (List.mem_append_right _ h)
  refine z_lv (lv' := [(0, .ref (q 0)), (1, .int (jI s_))]) [0, 1] rfl ?_
  obtain ⟨n0, n3, n4, n13⟩ := hwf.n
  refine z_aload_n (pc' := 1) X dX6_play_0 rfl 0 rfl rfl ?_
  refine z_iload_n (pc' := 2) X dX6_play_1 rfl 1 rfl rfl ?_
  refine z_callVI (pc' := 5) (S := St) (As := [.int (jI s_)]) (rest := []) X dX6_play_2 rfl (kX6_isSection l D E q σ s_  (hwf) (by omega)) (cwV 1 X.1.2.2.2.2 gX6_play_X6_isSection rfl rfl rfl (by decide +kernel) ⟨Nat.le_of_ble_eq_true rfl, Nat.le_of_ble_eq_true rfl⟩) 0 rfl rfl rfl rfl (Nat.le_of_ble_eq_true rfl) (fun r2 u2 hp2 => ?_)
  obtain ⟨rfl, hp2⟩ := hp2
  rcases hp2 with ⟨rfl, hp2⟩ | ⟨rfl, hp2⟩
  · refine z_if_ne (tgt := 10) (pc' := 8) X dX6_play_5 (by decide) rfl (by omega) (fun _ => ?_) (fun h => absurd h (by decide))
    refine z_aload_n (pc' := 11) X dX6_play_10 rfl 0 rfl rfl ?_
    refine z_callVI (pc' := 14) (S := St) (As := []) (rest := []) X dX6_play_11 rfl (kX6_findPlay l D E q σ   (hwf)) (cwV 0 X.1.2.2.2.2 gX6_play_X6_findPlay rfl rfl rfl (by decide +kernel) ⟨Nat.le_of_ble_eq_true rfl, Nat.le_of_ble_eq_true rfl⟩) 0 rfl rfl rfl rfl (Nat.le_of_ble_eq_true rfl) (fun r11 u11 hp11 => ?_)
    rcases hp11 with ⟨rfl, hne11, ⟨hq11, hd11⟩, xh11, hfp11⟩ | ⟨rfl, hz11, hus11⟩
    · refine z_if_eq (tgt := 25) (pc' := 17) X dX6_play_14 (by decide) rfl (by omega) (fun h => absurd h (by decide)) (fun _ => ?_)
      refine z_aload_n (pc' := 18) X dX6_play_17 rfl 0 rfl rfl ?_
      refine z_iload_n (pc' := 19) X dX6_play_18 rfl 1 rfl rfl ?_
      refine z_callVI (pc' := 22) (S := St) (As := [.int (jI s_)]) (rest := []) X dX6_play_19 rfl (kX6_markBy l D E q u11 s_  (hq11.wf hwf) (by omega) (pl_u hwf hq11 hd11 hfp11 hp2)) (cwV 1 X.1.2.2.2.2 gX6_play_X6_markBy rfl rfl rfl (by decide +kernel) ⟨Nat.le_of_ble_eq_true rfl, Nat.le_of_ble_eq_true rfl⟩) 0 rfl rfl rfl rfl (Nat.le_of_ble_eq_true rfl) (fun r19 u19 hp19 => ?_)
      obtain ⟨rfl, hp19⟩ := hp19; replace hp19 := hp19.symm; subst hp19
      refine z_goto (tgt := 27) X dX6_play_22 (by decide) ?_
      exact z_iret (post := (fun (rv : Int) (uu : St) => (fPlay (σ 0 0) (σ 2) (σ 4 0) (mA σ) (mV σ) (mB σ) (mW σ) (mE σ) (σ 13 0) (σ 14) s_ rv ∧ eqM uu σ))) X dX6_play_27 hret u11 (by first | exact ⟨pl_r hwf hq11 hd11 hfp11 hp2 hne11.2, hq11⟩ | exact ⟨Or.inr (Or.inl ⟨hp2, by omega, rfl⟩), by rw [hus11]; exact eqM.rf σ⟩)
    · refine z_if_eq (tgt := 25) (pc' := 17) X dX6_play_14 (by decide) rfl (by omega) (fun _ => ?_) (fun h => absurd h (by decide))
      refine z_bipush (pc' := 27) X dX6_play_25 rfl rfl ?_
      exact z_iret (post := (fun (rv : Int) (uu : St) => (fPlay (σ 0 0) (σ 2) (σ 4 0) (mA σ) (mV σ) (mB σ) (mW σ) (mE σ) (σ 13 0) (σ 14) s_ rv ∧ eqM uu σ))) X dX6_play_27 hret u11 (by first | exact ⟨pl_r hwf hq11 hd11 hfp11 hp2 hne11.2, hq11⟩ | exact ⟨Or.inr (Or.inl ⟨hp2, by omega, rfl⟩), by rw [hus11]; exact eqM.rf σ⟩)
  · refine z_if_ne (tgt := 10) (pc' := 8) X dX6_play_5 (by decide) rfl (by omega) (fun h => absurd h (by decide)) (fun _ => ?_)
    refine z_iconst (pc' := 9) X dX6_play_8 rfl ?_
    exact z_iret (post := (fun (rv : Int) (uu : St) => (fPlay (σ 0 0) (σ 2) (σ 4 0) (mA σ) (mV σ) (mB σ) (mW σ) (mE σ) (σ 13 0) (σ 14) s_ rv ∧ eqM uu σ))) X dX6_play_9 hret σ (⟨Or.inl ⟨hp2, rfl⟩, eqM.rf _⟩)
set_option maxHeartbeats 4000000 in
set_option maxRecDepth 100000 in
theorem kX6_drift (l : Launch) (D : va_G) (E : Nat → Nat) (q : Nat → Nat) (σ : St) (k : Int) (hwf : WfM σ) (hr : (-2147483648 ≤ k ∧ k < 2147483648)) : CtI l D E yX6_drift wsX6_drift ({ frames := 6, cells := 0, slots := 0, locals := 161 } : Room) [.ref (q 0), .int (jI k)] (MW E q σ) (MW E q) (fun (rv : Int) (uu : St) => (fDrift (σ 0 0) (σ 2) (σ 4 0) (mA σ) (mV σ) (mB σ) (mW σ) (mE σ) (σ 13 0) (σ 14) k rv ∧ eqM uu σ)) := by
  refine mk_I (cc := cX6_drift) (maxL := 4) (ret := some .int) (by decide) rfl (Nat.le_of_ble_eq_true rfl) ?_
  intro p e s m args below meth c A X hret
  have hin6 : ∀ x ∈ u_ws RX6 TX6 19, x ∈ wsX6_drift := fun _ h => List.mem_cons_of_mem _ (List.mem_append_right _ h)
  refine z_lv (lv' := [(0, .ref (q 0)), (1, .int (jI k))]) [0, 1] rfl ?_
  obtain ⟨n0, n3, n4, n13⟩ := hwf.n
  refine z_aload_n (pc' := 1) X dX6_drift_0 rfl 0 rfl rfl ?_
  refine z_iload_n (pc' := 2) X dX6_drift_1 rfl 1 rfl rfl ?_
  refine z_callVI (pc' := 5) (S := St) (As := [.int (jI k)]) (rest := []) X dX6_drift_2 rfl (kX6_isTie l D E q σ k  (hwf) (by omega)) (cwV 1 X.1.2.2.2.2 gX6_drift_X6_isTie rfl rfl rfl (by decide +kernel) ⟨Nat.le_of_ble_eq_true rfl, Nat.le_of_ble_eq_true rfl⟩) 0 rfl rfl rfl rfl (Nat.le_of_ble_eq_true rfl) (fun r2 u2 hp2 => ?_)
  obtain ⟨rfl, hp2⟩ := hp2
  rcases hp2 with ⟨rfl, hp2⟩ | ⟨rfl, hp2⟩
  · refine z_if_ne (tgt := 10) (pc' := 8) X dX6_drift_5 (by decide) rfl (by (first | omega | (rw [h5]; omega))) (fun _ => ?_) (fun h => absurd h (by decide))
    refine z_aload_n (pc' := 11) X dX6_drift_10 rfl 0 rfl rfl ?_
    refine z_callVI (pc' := 14) (S := St) (As := []) (rest := []) X dX6_drift_11 rfl (kX6_findPlay l D E q σ   (hwf)) (cwV 0 X.1.2.2.2.2 gX6_drift_X6_findPlay rfl rfl rfl (by decide +kernel) ⟨Nat.le_of_ble_eq_true rfl, Nat.le_of_ble_eq_true rfl⟩) 0 rfl rfl rfl rfl (Nat.le_of_ble_eq_true rfl) (fun r11 u11 hp11 => ?_)
    rcases hp11 with ⟨rfl, hne11, ⟨hq11, hd11⟩, xh11, hfp11⟩ | ⟨rfl, hz11, hus11⟩
    · refine z_if_ne (tgt := 20) (pc' := 17) X dX6_drift_14 (by decide) rfl (by (first | omega | (rw [h5]; omega))) (fun _ => ?_) (fun h => absurd h (by decide))
      have w11 := hq11.wf hwf
      have ht := hwf.tie (k := k) (by omega) (by omega)
      have h5 : u11 5 = σ 5 := hq11.2.2.2.2.2.1
      skip
      refine z_aload_n (pc' := 21) X dX6_drift_20 rfl 0 rfl rfl ?_
      refine z_aload_n (pc' := 22) X dX6_drift_21 rfl 0 rfl rfl ?_
      refine z_get (pc' := 25) (C := RX6) (ref := "PivotBeatsModel") (T := TX6) (N := 19) (v := .ref (q 5)) X dX6_drift_22 rfl hin6 0 rfl rfl 5 (by decide) (by decide +kernel) rfl rfl ?_
      refine z_iconst (pc' := 26) X dX6_drift_25 rfl ?_
      refine z_iload_n (pc' := 27) X dX6_drift_26 rfl 1 rfl rfl ?_
      refine z_imul (pc' := 28) X dX6_drift_27 rfl ?_
      refine z_iald (pc' := 29) (f := u11 5) (n := 60) X dX6_drift_28 rfl 3 rfl (by decide) (by (first | omega | (rw [h5]; omega))) ?_
      refine z_callVI (pc' := 32) (S := St) (As := [.int (jI (u11 5 (5 * k)))]) (rest := []) X dX6_drift_29 rfl (kX6_markBy l D E q u11 (u11 5 (5 * k))  (w11) (by (rw [h5]; omega)) (pl_u hwf hq11 hd11 hfp11 (by rw [h5]; exact ht.1))) (cwV 1 X.1.2.2.2.2 gX6_drift_X6_markBy rfl rfl rfl (by decide +kernel) ⟨Nat.le_of_ble_eq_true rfl, Nat.le_of_ble_eq_true rfl⟩) 0 rfl rfl rfl rfl (Nat.le_of_ble_eq_true rfl) (fun r29 u29 hp29 => ?_)
      obtain ⟨rfl, e29⟩ := hp29
      have ra := dr_rng hwf hq11 hd11 hfp11 (x := u11 5 (5 * k)) (by rw [h5]; exact ht.1) e29
      refine z_istore_n (pc' := 33) (lv' := [(2, .int (jI r29)), (0, .ref (q 0)), (1, .int (jI k))]) X dX6_drift_32 rfl rfl (by decide) rfl ?_
      refine z_aload_n (pc' := 34) X dX6_drift_33 rfl 1 rfl rfl ?_
      refine z_aload_n (pc' := 35) X dX6_drift_34 rfl 1 rfl rfl ?_
      refine z_get (pc' := 38) (C := RX6) (ref := "PivotBeatsModel") (T := TX6) (N := 19) (v := .ref (q 5)) X dX6_drift_35 rfl hin6 0 rfl rfl 5 (by decide) (by decide +kernel) rfl rfl ?_
      refine z_iconst (pc' := 39) X dX6_drift_38 rfl ?_
      refine z_iload_n (pc' := 40) X dX6_drift_39 rfl 2 rfl rfl ?_
      refine z_imul (pc' := 41) X dX6_drift_40 rfl ?_
      refine z_iconst (pc' := 42) X dX6_drift_41 rfl ?_
      refine z_iadd (pc' := 43) X dX6_drift_42 rfl ?_
      refine z_iald (pc' := 44) (f := u11 5) (n := 60) X dX6_drift_43 rfl 3 rfl (by decide) (by (first | omega | (rw [h5]; omega))) ?_
      refine z_callVI (pc' := 47) (S := St) (As := [.int (jI (u11 5 ((5 * k) + 2)))]) (rest := []) X dX6_drift_44 rfl (kX6_markBy l D E q u11 (u11 5 ((5 * k) + 2))  (w11) (by (rw [h5]; omega)) (pl_u hwf hq11 hd11 hfp11 (by rw [h5]; exact ht.2.2.1))) (cwV 1 X.1.2.2.2.2 gX6_drift_X6_markBy rfl rfl rfl (by decide +kernel) ⟨Nat.le_of_ble_eq_true rfl, Nat.le_of_ble_eq_true rfl⟩) 0 rfl rfl rfl rfl (Nat.le_of_ble_eq_true rfl) (fun r44 u44 hp44 => ?_)
      obtain ⟨rfl, e44⟩ := hp44
      have rb := dr_rng hwf hq11 hd11 hfp11 (x := u11 5 (5 * k + 2)) (by rw [h5]; exact ht.2.2.1) e44
      refine z_istore_n (pc' := 48) (lv' := [(3, .int (jI r44)), (2, .int (jI r29)), (0, .ref (q 0)), (1, .int (jI k))]) X dX6_drift_47 rfl rfl (by decide) rfl ?_
      refine z_iload_n (pc' := 49) X dX6_drift_48 rfl 1 rfl rfl ?_
      refine z_bipush (pc' := 51) X dX6_drift_49 rfl rfl ?_
      refine z_icmp_eq (tgt := 60) (pc' := 54) X dX6_drift_51 (by decide) rfl (by (first | omega | (rw [h5]; omega))) (fun h51 => ?_) (fun h51 => ?_)
      · refine z_bipush (pc' := 62) X dX6_drift_60 rfl rfl ?_
        refine z_goto (tgt := 72) X dX6_drift_62 (by decide) ?_
        exact z_iret (post := (fun (rv : Int) (uu : St) => (fDrift (σ 0 0) (σ 2) (σ 4 0) (mA σ) (mV σ) (mB σ) (mW σ) (mE σ) (σ 13 0) (σ 14) k rv ∧ eqM uu σ))) X dX6_drift_72 hret u11 (by first | exact ⟨dr_9 hwf hq11 hd11 hfp11 hp2 hne11.2 h5 e29 e44 (Or.inl h51), hq11⟩ | exact ⟨dr_9 hwf hq11 hd11 hfp11 hp2 hne11.2 h5 e29 e44 (Or.inr h57), hq11⟩ | exact ⟨dr_k hwf hq11 hd11 hfp11 hp2 hne11.2 h5 e29 e44 h51 h57, hq11⟩)
      · refine z_iload_n (pc' := 55) X dX6_drift_54 rfl 0 rfl rfl ?_
        refine z_bipush (pc' := 57) X dX6_drift_55 rfl rfl ?_
        refine z_icmp_ne (tgt := 65) (pc' := 60) X dX6_drift_57 (by decide) rfl (by (first | omega | (rw [h5]; omega))) (fun h57 => ?_) (fun h57 => ?_)
        · refine z_aload_n (pc' := 66) X dX6_drift_65 rfl 2 rfl rfl ?_
          refine z_iload_n (pc' := 67) X dX6_drift_66 rfl 3 rfl rfl ?_
          refine z_iload_n (pc' := 68) X dX6_drift_67 rfl 1 rfl rfl ?_
          refine z_iload_n (pc' := 69) X dX6_drift_68 rfl 0 rfl rfl ?_
          refine z_callVI (pc' := 72) (S := St) (As := [.int (jI k), .int (jI r29), .int (jI r44)]) (rest := []) X dX6_drift_69 rfl (kX6_driftBy l D E q u11 k r29 r44  (w11) (by rw [hq11.2.2.2.2.1]; exact hp2) (by omega)) (cwV 3 X.1.2.2.2.2 gX6_drift_X6_driftBy rfl rfl rfl (by decide +kernel) ⟨Nat.le_of_ble_eq_true rfl, Nat.le_of_ble_eq_true rfl⟩) 0 rfl rfl rfl rfl (Nat.le_of_ble_eq_true rfl) (fun r69 u69 hp69 => ?_)
          obtain ⟨rfl, hp69⟩ := hp69; replace hp69 := hp69.symm; subst hp69
          exact z_iret (post := (fun (rv : Int) (uu : St) => (fDrift (σ 0 0) (σ 2) (σ 4 0) (mA σ) (mV σ) (mB σ) (mW σ) (mE σ) (σ 13 0) (σ 14) k rv ∧ eqM uu σ))) X dX6_drift_72 hret u11 (by first | exact ⟨dr_9 hwf hq11 hd11 hfp11 hp2 hne11.2 h5 e29 e44 (Or.inl h51), hq11⟩ | exact ⟨dr_9 hwf hq11 hd11 hfp11 hp2 hne11.2 h5 e29 e44 (Or.inr h57), hq11⟩ | exact ⟨dr_k hwf hq11 hd11 hfp11 hp2 hne11.2 h5 e29 e44 h51 h57, hq11⟩)
        · refine z_bipush (pc' := 62) X dX6_drift_60 rfl rfl ?_
          refine z_goto (tgt := 72) X dX6_drift_62 (by decide) ?_
          exact z_iret (post := (fun (rv : Int) (uu : St) => (fDrift (σ 0 0) (σ 2) (σ 4 0) (mA σ) (mV σ) (mB σ) (mW σ) (mE σ) (σ 13 0) (σ 14) k rv ∧ eqM uu σ))) X dX6_drift_72 hret u11 (by first | exact ⟨dr_9 hwf hq11 hd11 hfp11 hp2 hne11.2 h5 e29 e44 (Or.inl h51), hq11⟩ | exact ⟨dr_9 hwf hq11 hd11 hfp11 hp2 hne11.2 h5 e29 e44 (Or.inr h57), hq11⟩ | exact ⟨dr_k hwf hq11 hd11 hfp11 hp2 hne11.2 h5 e29 e44 h51 h57, hq11⟩)
    · refine z_if_ne (tgt := 20) (pc' := 17) X dX6_drift_14 (by decide) rfl (by (first | omega | (rw [h5]; omega))) (fun h => absurd h (by decide)) (fun _ => ?_)
      refine z_bipush (pc' := 19) X dX6_drift_17 rfl rfl ?_
      exact z_iret (post := (fun (rv : Int) (uu : St) => (fDrift (σ 0 0) (σ 2) (σ 4 0) (mA σ) (mV σ) (mB σ) (mW σ) (mE σ) (σ 13 0) (σ 14) k rv ∧ eqM uu σ))) X dX6_drift_19 hret u11 (⟨Or.inr (Or.inl ⟨hp2, by have := hwf.tie (k := k) hp2.1 hp2.2; omega, rfl⟩), by rw [hus11]; exact eqM.rf σ⟩)
  · refine z_if_ne (tgt := 10) (pc' := 8) X dX6_drift_5 (by decide) rfl (by (first | omega | (rw [h5]; omega))) (fun h => absurd h (by decide)) (fun _ => ?_)
    refine z_iconst (pc' := 9) X dX6_drift_8 rfl ?_
    exact z_iret (post := (fun (rv : Int) (uu : St) => (fDrift (σ 0 0) (σ 2) (σ 4 0) (mA σ) (mV σ) (mB σ) (mW σ) (mE σ) (σ 13 0) (σ 14) k rv ∧ eqM uu σ))) X dX6_drift_9 hret σ (⟨Or.inl ⟨hp2, rfl⟩, eqM.rf _⟩)
