theorem szC {σ : St} {s : Int} (hwf : WfC σ) (hji : JI σ) (hs : 0 ≤ s ∧ s < σ 1 0) : smI (fun o => if σ 10 o = σ 10 s then 1 else 0) (σ 1 0).toNat = sz7 (jS (σ 5) (σ 6) (σ 7) (σ 8) (σ 4 0).toNat 0) (jS (σ 5) (σ 6) (σ 7) (σ 8) (σ 4 0).toNat 0 s) := by
  obtain ⟨n1, n0, n4, n16⟩ := hwf.n
  have js := hji.g hwf (s := s) (by omega)
  have far := jS_far (nS := σ 1 0) hwf.tok (fun k hk => by have := hwf.tie (k := (k : Int)) (by omega) (by omega); omega) _ (Nat.le_refl _)
  rw [← sz_sm (f := jS (σ 5) (σ 6) (σ 7) (σ 8) (σ 4 0).toNat 0) n1 (fun o o0 o1 => by rw [far o o0]; omega)]
  refine smI_congr _ (fun k k0 k1 => ?_)
  rw [(hji.g hwf (s := k) (by omega)).1, js.1]
theorem lsA {σ : St} {s z : Int} (e : σ 11 s - σ 11 0 = eX (σ 4 0) (σ 5) (σ 6) (σ 7) (σ 8) 0 s ∧ σ 12 s - σ 12 0 = eY (σ 4 0) (σ 5) (σ 6) (σ 7) (σ 8) 0 s) (rb : (1 ≤ tU z (σ 4 0) (σ 5) (σ 6) (σ 7) (σ 8) s ∧ tU z (σ 4 0) (σ 5) (σ 6) (σ 7) (σ 8) s ≤ 27487790694400) ∧ (1 ≤ tL (σ 4 0) (σ 5) (σ 6) (σ 7) (σ 8) s ∧ tL (σ 4 0) (σ 5) (σ 6) (σ 7) (σ 8) s ≤ 68719476736)) (hb : 1 ≤ σ 2 s ∧ σ 2 s ≤ 99) : (0 < (if (0 : Int) = 0 then z * pU (σ 11 s - σ 11 0) (σ 12 s - σ 12 0) else pU (-(σ 11 s - σ 11 0)) (-(σ 12 s - σ 12 0)))) ∧ ((if (0 : Int) = 0 then z * pU (σ 11 s - σ 11 0) (σ 12 s - σ 12 0) else pU (-(σ 11 s - σ 11 0)) (-(σ 12 s - σ 12 0))) ≤ 27487790694400) ∧ ((0 ≤ σ 2 s * 60000 * (if (1 : Int) = 0 then z * pU (σ 11 s - σ 11 0) (σ 12 s - σ 12 0) else pU (-(σ 11 s - σ 11 0)) (-(σ 12 s - σ 12 0))) ∧ σ 2 s * 60000 * (if (1 : Int) = 0 then z * pU (σ 11 s - σ 11 0) (σ 12 s - σ 12 0) else pU (-(σ 11 s - σ 11 0)) (-(σ 12 s - σ 12 0))) < 9223372036854775808) ∧ (0 < (if (0 : Int) = 0 then z * pU (σ 11 s - σ 11 0) (σ 12 s - σ 12 0) else pU (-(σ 11 s - σ 11 0)) (-(σ 12 s - σ 12 0))) ∧ (if (0 : Int) = 0 then z * pU (σ 11 s - σ 11 0) (σ 12 s - σ 12 0) else pU (-(σ 11 s - σ 11 0)) (-(σ 12 s - σ 12 0))) < 9223372036854775808)) := by
  rw [if_pos rfl, if_neg (by decide), e.1, e.2]
  have m := mul_bd (a := σ 2 s * 60000) (b := tL (σ 4 0) (σ 5) (σ 6) (σ 7) (σ 8) s) (A := 5940000) (B := 68719476736) (by omega) (by omega)
  unfold tU tL at rb
  unfold tL at m
  omega
theorem lsC {σ : St} {s z : Int} (e : σ 11 s - σ 11 0 = eX (σ 4 0) (σ 5) (σ 6) (σ 7) (σ 8) 0 s ∧ σ 12 s - σ 12 0 = eY (σ 4 0) (σ 5) (σ 6) (σ 7) (σ 8) 0 s) : σ 2 s * 60000 * (if (1 : Int) = 0 then z * pU (σ 11 s - σ 11 0) (σ 12 s - σ 12 0) else pU (-(σ 11 s - σ 11 0)) (-(σ 12 s - σ 12 0))) / (if (0 : Int) = 0 then z * pU (σ 11 s - σ 11 0) (σ 12 s - σ 12 0) else pU (-(σ 11 s - σ 11 0)) (-(σ 12 s - σ 12 0))) = σ 2 s * 60000 * tL (σ 4 0) (σ 5) (σ 6) (σ 7) (σ 8) s / tU z (σ 4 0) (σ 5) (σ 6) (σ 7) (σ 8) s := by
  rw [if_pos rfl, if_neg (by decide), e.1, e.2]
  rfl
theorem lsB {σ : St} {s z : Int} (e : σ 11 s - σ 11 0 = eX (σ 4 0) (σ 5) (σ 6) (σ 7) (σ 8) 0 s ∧ σ 12 s - σ 12 0 = eY (σ 4 0) (σ 5) (σ 6) (σ 7) (σ 8) 0 s) (hb : 1 ≤ σ 2 s ∧ σ 2 s ≤ 99) (rb : (1 ≤ tU z (σ 4 0) (σ 5) (σ 6) (σ 7) (σ 8) s ∧ tU z (σ 4 0) (σ 5) (σ 6) (σ 7) (σ 8) s ≤ 27487790694400) ∧ (1 ≤ tL (σ 4 0) (σ 5) (σ 6) (σ 7) (σ 8) s ∧ tL (σ 4 0) (σ 5) (σ 6) (σ 7) (σ 8) s ≤ 68719476736)) : 0 ≤ σ 2 s * 60000 * (if (1 : Int) = 0 then z * pU (σ 11 s - σ 11 0) (σ 12 s - σ 12 0) else pU (-(σ 11 s - σ 11 0)) (-(σ 12 s - σ 12 0))) / (if (0 : Int) = 0 then z * pU (σ 11 s - σ 11 0) (σ 12 s - σ 12 0) else pU (-(σ 11 s - σ 11 0)) (-(σ 12 s - σ 12 0))) ∧ σ 2 s * 60000 * (if (1 : Int) = 0 then z * pU (σ 11 s - σ 11 0) (σ 12 s - σ 12 0) else pU (-(σ 11 s - σ 11 0)) (-(σ 12 s - σ 12 0))) / (if (0 : Int) = 0 then z * pU (σ 11 s - σ 11 0) (σ 12 s - σ 12 0) else pU (-(σ 11 s - σ 11 0)) (-(σ 12 s - σ 12 0))) ≤ 408193691811840000 := by
  rw [lsC e]
  have m := mul_bd (a := σ 2 s * 60000) (b := tL (σ 4 0) (σ 5) (σ 6) (σ 7) (σ 8) s) (A := 5940000) (B := 68719476736) (by omega) (by omega)
  exact ls_bd (by omega) (by omega)
theorem awR {σ : St} {s r : Int} (hwf : WfC σ) (e : r = (if jS (σ 5) (σ 6) (σ 7) (σ 8) (σ 4 0).toNat 0 s = jS (σ 5) (σ 6) (σ 7) (σ 8) (σ 4 0).toNat 0 0 then (if nrI (dM (σ 0 0) (σ 4 0) (σ 5) (σ 6) (σ 7) (σ 8) (σ 15) s) (σ 16 0).toNat = -9 then -9 else σ 15 (nrI (dM (σ 0 0) (σ 4 0) (σ 5) (σ 6) (σ 7) (σ 8) (σ 15) s) (σ 16 0).toNat)) else -9)) : -9 ≤ r ∧ r ≤ 400 := by
  have rr := nrI_rng (dM (σ 0 0) (σ 4 0) (σ 5) (σ 6) (σ 7) (σ 8) (σ 15) s) (σ 16 0).toNat
  rw [e]
  repeat' split
  · omega
  · have := hwf.mk (k := nrI (dM (σ 0 0) (σ 4 0) (σ 5) (σ 6) (σ 7) (σ 8) (σ 15) s) (σ 16 0).toNat) (by omega) (by omega); omega
  · omega
theorem awK {σ : St} {s r : Int} (hwf : WfC σ) (e : r = (if jS (σ 5) (σ 6) (σ 7) (σ 8) (σ 4 0).toNat 0 s = jS (σ 5) (σ 6) (σ 7) (σ 8) (σ 4 0).toNat 0 0 then (if nrI (dM (σ 0 0) (σ 4 0) (σ 5) (σ 6) (σ 7) (σ 8) (σ 15) s) (σ 16 0).toNat = -9 then -9 else σ 15 (nrI (dM (σ 0 0) (σ 4 0) (σ 5) (σ 6) (σ 7) (σ 8) (σ 15) s) (σ 16 0).toNat)) else -9)) (h : ¬ r = -9) : jS (σ 5) (σ 6) (σ 7) (σ 8) (σ 4 0).toNat 0 s = jS (σ 5) (σ 6) (σ 7) (σ 8) (σ 4 0).toNat 0 0 ∧ ¬ nrI (dM (σ 0 0) (σ 4 0) (σ 5) (σ 6) (σ 7) (σ 8) (σ 15) s) (σ 16 0).toNat = -9 ∧ r = σ 15 (nrI (dM (σ 0 0) (σ 4 0) (σ 5) (σ 6) (σ 7) (σ 8) (σ 15) s) (σ 16 0).toNat) ∧ (20 ≤ r ∧ r ≤ 400) := by
  have rr := nrI_rng (dM (σ 0 0) (σ 4 0) (σ 5) (σ 6) (σ 7) (σ 8) (σ 15) s) (σ 16 0).toNat
  by_cases q : jS (σ 5) (σ 6) (σ 7) (σ 8) (σ 4 0).toNat 0 s = jS (σ 5) (σ 6) (σ 7) (σ 8) (σ 4 0).toNat 0 0
  · rw [if_pos q] at e
    by_cases q2 : nrI (dM (σ 0 0) (σ 4 0) (σ 5) (σ 6) (σ 7) (σ 8) (σ 15) s) (σ 16 0).toNat = -9
    · rw [if_pos q2] at e; exact absurd e h
    · rw [if_neg q2] at e
      have := hwf.mk (k := nrI (dM (σ 0 0) (σ 4 0) (σ 5) (σ 6) (σ 7) (σ 8) (σ 15) s) (σ 16 0).toNat) (by omega) (by omega)
      exact ⟨q, q2, e, by omega⟩
  · rw [if_neg q] at e; exact absurd e h
theorem aw9 {σ : St} {s r wh : Int} (hs : 0 ≤ s ∧ s < σ 1 0) (hw : 0 ≤ wh ∧ wh ≤ 1) (hwf : WfC σ) (e : r = (if jS (σ 5) (σ 6) (σ 7) (σ 8) (σ 4 0).toNat 0 s = jS (σ 5) (σ 6) (σ 7) (σ 8) (σ 4 0).toNat 0 0 then (if nrI (dM (σ 0 0) (σ 4 0) (σ 5) (σ 6) (σ 7) (σ 8) (σ 15) s) (σ 16 0).toNat = -9 then -9 else σ 15 (nrI (dM (σ 0 0) (σ 4 0) (σ 5) (σ 6) (σ 7) (σ 8) (σ 15) s) (σ 16 0).toNat)) else -9)) (h : r = -9) : -9 = fAway (σ 1 0) (σ 0 0) (σ 4 0) (σ 5) (σ 6) (σ 7) (σ 8) (σ 16 0) (σ 15) s wh := by
  have rr := nrI_rng (dM (σ 0 0) (σ 4 0) (σ 5) (σ 6) (σ 7) (σ 8) (σ 15) s) (σ 16 0).toNat
  unfold fAway
  rw [if_pos hs, if_pos hw]
  by_cases q : jS (σ 5) (σ 6) (σ 7) (σ 8) (σ 4 0).toNat 0 s = jS (σ 5) (σ 6) (σ 7) (σ 8) (σ 4 0).toNat 0 0
  · rw [if_pos q] at e ⊢
    by_cases q2 : nrI (dM (σ 0 0) (σ 4 0) (σ 5) (σ 6) (σ 7) (σ 8) (σ 15) s) (σ 16 0).toNat = -9
    · rw [if_pos q2]
    · rw [if_neg q2] at e
      have := hwf.mk (k := nrI (dM (σ 0 0) (σ 4 0) (σ 5) (σ 6) (σ 7) (σ 8) (σ 15) s) (σ 16 0).toNat) (by omega) (by omega)
      omega
  · rw [if_neg q]
theorem mkF {u v σ : St} (e : u = up v 19 0 0) (h : ∀ F, F ≠ 15 → F ≠ 16 → v F = σ F) : ∀ F, F ≠ 15 → F ≠ 16 → F ≠ 19 → u F = σ F := by
  intro F h1 h2 h3
  rw [e, ← h F h1 h2]
  funext i
  exact up_f _ _ _ _ h3
theorem mkG {u v : St} (e : u = up v 19 0 0) : eqC u v := by
  intro F hF
  rw [e]
  funext i
  exact up_f _ _ _ _ (by omega)
theorem wiA {σ : St} {t x r : Int} (hwf : WfC σ) (h : t < r) (er : r = smI (lsF (σ 2) x (σ 4 0) (σ 5) (σ 6) (σ 7) (σ 8)) (σ 1 0).toNat) : ∀ y, 20 ≤ y → y ≤ x → t < smI (lsF (σ 2) y (σ 4 0) (σ 5) (σ 6) (σ 7) (σ 8)) (σ 1 0).toNat := by
  intro y y0 y1
  have := wh_mono (nT := σ 4 0) (a := σ 5) (v := σ 6) (b := σ 7) (w := σ 8) (bt := σ 2) hwf.1.1 hwf.2.1 y0 y1
  omega
theorem wiB {σ : St} {t ts st r : Int} (hwf : WfC σ) (h : r ≤ t) (er : r = smI (lsF (σ 2) (ts + st) (σ 4 0) (σ 5) (σ 6) (σ 7) (σ 8)) (σ 1 0).toNat) (h0 : 19 ≤ ts ∧ (st = 1 ∨ st = 2 ∨ st = 4 ∨ st = 8 ∨ st = 16 ∨ st = 32 ∨ st = 64 ∨ st = 128 ∨ st = 256)) : ∀ y, y ≤ 400 → ts + 2 * (st / 2) ≤ y → ts + 1 ≤ y → smI (lsF (σ 2) y (σ 4 0) (σ 5) (σ 6) (σ 7) (σ 8)) (σ 1 0).toNat ≤ t := by
  intro y y0 y1 y2
  have := wh_mono (nT := σ 4 0) (a := σ 5) (v := σ 6) (b := σ 7) (w := σ 8) (bt := σ 2) hwf.1.1 hwf.2.1 (show 20 ≤ ts + st by omega) (show ts + st ≤ y by omega)
  omega
theorem wiC {f : Int → Int} {t ts st : Int} (g4 : ∀ y, y ≤ 400 → ts + 2 * st ≤ y → ts + 1 ≤ y → f y ≤ t) (h0 : st = 1 ∨ st = 2 ∨ st = 4 ∨ st = 8 ∨ st = 16 ∨ st = 32 ∨ st = 64 ∨ st = 128 ∨ st = 256 := by omega) : ∀ y, y ≤ 400 → ts + st + 2 * (st / 2) ≤ y → ts + st + 1 ≤ y → f y ≤ t := by
  intro y y0 y1 y2
  exact g4 y y0 (by omega) (by omega)

set_option maxHeartbeats 4000000 in
set_option maxRecDepth 100000 in
theorem kX0_forget (l : Launch) (D : va_G) (E : Nat → Nat) (q : Nat → Nat) (σ : St) : CtV l D E yX0_forget wsX0_forget ({ frames := 0, cells := 0, slots := 0, locals := 0 } : Room) [.ref (q 39)] (CW E q σ) (CW E q) (fun (uu : St) => uu = up σ 19 0 0) := by
  refine mk_V (cc := cX0_forget) (maxL := 1) (ret := none) (by decide) rfl (Nat.le_of_ble_eq_true rfl) ?_
  intro p e s m args below meth c A X hret
  have hin0 : ∀ x ∈ u_ws RX0 TX0 9, x ∈ wsX0_forget := fun _ h => List.mem_cons_of_mem _ (List.mem_append_right _ h)
  refine z_lv (lv' := [(0, .ref (q 39))]) [0] rfl ?_
  refine z_aload_n (pc' := 1) X dX0_forget_0 rfl 0 rfl rfl ?_
  refine z_iconst (pc' := 2) X dX0_forget_1 rfl ?_
  refine z_put (pc' := 5) (C := RX0) (ref := "PivotBeats$BestPlay") (T := TX0) (N := 9) (ty := .boolean) (w' := CW E q (up σ 19 0 0)) X dX0_forget_2 rfl hin0 tyX0 tyX0_ok nmX0 4 rfl rfl 2 (by decide) (by decide +kernel) rfl rfl (by decide +kernel) rfl rfl (Nat.le_of_ble_eq_true rfl) rfl ?_
  exact z_vret (post := (fun (uu : St) => uu = up σ 19 0 0)) X dX0_forget_5 hret (up σ 19 0 0) (rfl)
set_option maxHeartbeats 4000000 in
set_option maxRecDepth 100000 in
theorem kX5_isSection (l : Launch) (D : va_G) (E : Nat → Nat) (q : Nat → Nat) (σ : St) (s_ : Int) (hwf : WfC σ) (hr : (-2147483648 ≤ s_ ∧ s_ < 2147483648)) : CtI l D E yX5_isSection wsX5_isSection ({ frames := 0, cells := 0, slots := 0, locals := 0 } : Room) [.ref (q 0), .int (jI s_)] (CW E q σ) (CW E q) (fun (rv : Int) (uu : St) => σ = uu ∧ ((rv = 1 ∧ (0 ≤ s_ ∧ s_ < σ 1 0)) ∨ (rv = 0 ∧ ¬ (0 ≤ s_ ∧ s_ < σ 1 0)))) := by
  refine mk_I (cc := cX5_isSection) (maxL := 2) (ret := some .boolean) (by decide) rfl (Nat.le_of_ble_eq_true rfl) ?_
  intro p e s m args below meth c A X hret
  have hin5 : ∀ x ∈ u_ws RX5 TX5 6, x ∈ wsX5_isSection := fun _ h => List.mem_cons_of_mem _ (List.mem_append_left _ (List.mem_append_right _ h))
  have hin3 : ∀ x ∈ u_ws RX3 TX3 9, x ∈ wsX5_isSection := fun _ h => List.mem_cons_of_mem _ (List.mem_append_right _ h)
  refine z_lv (lv' := [(0, .ref (q 0)), (1, .int (jI s_))]) [0, 1] rfl ?_
  obtain ⟨n1, n0, n4, n16⟩ := hwf.n
  refine z_iload_n (pc' := 1) X dX5_isSection_0 rfl 1 rfl rfl ?_
  refine z_if_lt (tgt := 19) (pc' := 4) X dX5_isSection_1 (by decide) rfl (by omega) (fun h1 => ?_) (fun h1 => ?_)
  · refine z_iconst (pc' := 20) X dX5_isSection_19 rfl ?_
    exact z_zret (post := (fun (rv : Int) (uu : St) => σ = uu ∧ ((rv = 1 ∧ (0 ≤ s_ ∧ s_ < σ 1 0)) ∨ (rv = 0 ∧ ¬ (0 ≤ s_ ∧ s_ < σ 1 0))))) X dX5_isSection_20 hret σ (by first | decide | omega) (⟨rfl, Or.inr ⟨rfl, by omega⟩⟩)
  · refine z_iload_n (pc' := 5) X dX5_isSection_4 rfl 1 rfl rfl ?_
    refine z_aload_n (pc' := 6) X dX5_isSection_5 rfl 0 rfl rfl ?_
    refine z_get (pc' := 9) (C := RX5) (ref := "PivotBeats") (T := TX5) (N := 6) (v := .ref (q 36)) X dX5_isSection_6 rfl hin5 0 rfl rfl 0 (by decide) (by decide +kernel) rfl rfl ?_
    refine z_get (pc' := 12) (C := RX3) (ref := "PivotBeats$Piece") (T := TX3) (N := 9) (v := .int (jI (σ 1 0))) X dX5_isSection_9 rfl hin3 1 rfl rfl 0 (by decide) (by decide +kernel) rfl rfl ?_
    refine z_icmp_ge (tgt := 19) (pc' := 15) X dX5_isSection_12 (by decide) rfl (by omega) (fun h12 => ?_) (fun h12 => ?_)
    · refine z_iconst (pc' := 20) X dX5_isSection_19 rfl ?_
      exact z_zret (post := (fun (rv : Int) (uu : St) => σ = uu ∧ ((rv = 1 ∧ (0 ≤ s_ ∧ s_ < σ 1 0)) ∨ (rv = 0 ∧ ¬ (0 ≤ s_ ∧ s_ < σ 1 0))))) X dX5_isSection_20 hret σ (by first | decide | omega) (⟨rfl, Or.inr ⟨rfl, by omega⟩⟩)
    · refine z_iconst (pc' := 16) X dX5_isSection_15 rfl ?_
      refine z_goto (tgt := 20) X dX5_isSection_16 (by decide) ?_
      exact z_zret (post := (fun (rv : Int) (uu : St) => σ = uu ∧ ((rv = 1 ∧ (0 ≤ s_ ∧ s_ < σ 1 0)) ∨ (rv = 0 ∧ ¬ (0 ≤ s_ ∧ s_ < σ 1 0))))) X dX5_isSection_20 hret σ (by first | decide | omega) (⟨rfl, Or.inl ⟨rfl, by omega⟩⟩)
set_option maxHeartbeats 4000000 in
set_option maxRecDepth 100000 in
theorem kX5_isTie (l : Launch) (D : va_G) (E : Nat → Nat) (q : Nat → Nat) (σ : St) (k : Int) (hwf : WfC σ) (hr : (-2147483648 ≤ k ∧ k < 2147483648)) : CtI l D E yX5_isTie wsX5_isTie ({ frames := 0, cells := 0, slots := 0, locals := 0 } : Room) [.ref (q 0), .int (jI k)] (CW E q σ) (CW E q) (fun (rv : Int) (uu : St) => σ = uu ∧ ((rv = 1 ∧ (0 ≤ k ∧ k < σ 4 0)) ∨ (rv = 0 ∧ ¬ (0 ≤ k ∧ k < σ 4 0)))) := by
  refine mk_I (cc := cX5_isTie) (maxL := 2) (ret := some .boolean) (by decide) rfl (Nat.le_of_ble_eq_true rfl) ?_
  intro p e s m args below meth c A X hret
  have hin5 : ∀ x ∈ u_ws RX5 TX5 6, x ∈ wsX5_isTie := fun _ h => List.mem_cons_of_mem _ (List.mem_append_left _ (List.mem_append_right _ h))
  have hin3 : ∀ x ∈ u_ws RX3 TX3 9, x ∈ wsX5_isTie := fun _ h => List.mem_cons_of_mem _ (List.mem_append_right _ h)
  refine z_lv (lv' := [(0, .ref (q 0)), (1, .int (jI k))]) [0, 1] rfl ?_
  obtain ⟨n1, n0, n4, n16⟩ := hwf.n
  refine z_iload_n (pc' := 1) X dX5_isTie_0 rfl 1 rfl rfl ?_
  refine z_if_lt (tgt := 19) (pc' := 4) X dX5_isTie_1 (by decide) rfl (by omega) (fun h1 => ?_) (fun h1 => ?_)
  · refine z_iconst (pc' := 20) X dX5_isTie_19 rfl ?_
    exact z_zret (post := (fun (rv : Int) (uu : St) => σ = uu ∧ ((rv = 1 ∧ (0 ≤ k ∧ k < σ 4 0)) ∨ (rv = 0 ∧ ¬ (0 ≤ k ∧ k < σ 4 0))))) X dX5_isTie_20 hret σ (by first | decide | omega) (⟨rfl, Or.inr ⟨rfl, by omega⟩⟩)
  · refine z_iload_n (pc' := 5) X dX5_isTie_4 rfl 1 rfl rfl ?_
    refine z_aload_n (pc' := 6) X dX5_isTie_5 rfl 0 rfl rfl ?_
    refine z_get (pc' := 9) (C := RX5) (ref := "PivotBeats") (T := TX5) (N := 6) (v := .ref (q 36)) X dX5_isTie_6 rfl hin5 0 rfl rfl 0 (by decide) (by decide +kernel) rfl rfl ?_
    refine z_get (pc' := 12) (C := RX3) (ref := "PivotBeats$Piece") (T := TX3) (N := 9) (v := .int (jI (σ 4 0))) X dX5_isTie_9 rfl hin3 1 rfl rfl 3 (by decide) (by decide +kernel) rfl rfl ?_
    refine z_icmp_ge (tgt := 19) (pc' := 15) X dX5_isTie_12 (by decide) rfl (by omega) (fun h12 => ?_) (fun h12 => ?_)
    · refine z_iconst (pc' := 20) X dX5_isTie_19 rfl ?_
      exact z_zret (post := (fun (rv : Int) (uu : St) => σ = uu ∧ ((rv = 1 ∧ (0 ≤ k ∧ k < σ 4 0)) ∨ (rv = 0 ∧ ¬ (0 ≤ k ∧ k < σ 4 0))))) X dX5_isTie_20 hret σ (by first | decide | omega) (⟨rfl, Or.inr ⟨rfl, by omega⟩⟩)
    · refine z_iconst (pc' := 16) X dX5_isTie_15 rfl ?_
      refine z_goto (tgt := 20) X dX5_isTie_16 (by decide) ?_
      exact z_zret (post := (fun (rv : Int) (uu : St) => σ = uu ∧ ((rv = 1 ∧ (0 ≤ k ∧ k < σ 4 0)) ∨ (rv = 0 ∧ ¬ (0 ≤ k ∧ k < σ 4 0))))) X dX5_isTie_20 hret σ (by first | decide | omega) (⟨rfl, Or.inl ⟨rfl, by omega⟩⟩)
set_option maxHeartbeats 4000000 in
set_option maxRecDepth 100000 in
theorem kX5_tiesChanged (l : Launch) (D : va_G) (E : Nat → Nat) (q : Nat → Nat) (σ : St) (hwf : WfC σ) : CtV l D E yX5_tiesChanged wsX5_tiesChanged ({ frames := 4, cells := 0, slots := 0, locals := 118 } : Room) [.ref (q 0)] (CW E q σ) (CW E q) (fun (uu : St) => (∀ F, (F < 10 ∨ 14 < F) → F ≠ 19 → uu F = σ F) ∧ uu 19 0 = 0 ∧ JI uu) := by
  refine mk_V (cc := cX5_tiesChanged) (maxL := 1) (ret := none) (by decide) rfl (Nat.le_of_ble_eq_true rfl) ?_
  intro p e s m args below meth c A X hret
  have hin5 : ∀ x ∈ u_ws RX5 TX5 6, x ∈ wsX5_tiesChanged := fun _ h => List.mem_cons_of_mem _ (List.mem_append_left _ (List.mem_append_left _ (List.mem_append_left _ (List.mem_append_right _ h))))
  have hin1 : ∀ x ∈ u_ws RX1 TX1 5, x ∈ wsX5_tiesChanged := fun _ h => List.mem_cons_of_mem _ (List.mem_append_left _ (List.mem_append_left _ (List.mem_append_right _ h)))
  have hin3 : ∀ x ∈ u_ws RX3 TX3 9, x ∈ wsX5_tiesChanged := fun _ h => List.mem_cons_of_mem _ (List.mem_append_left _ (List.mem_append_right _ h))
  have hin0 : ∀ x ∈ u_ws RX0 TX0 9, x ∈ wsX5_tiesChanged := fun _ h => List.mem_cons_of_mem _ (List.mem_append_right _ h)
  refine z_lv (lv' := [(0, .ref (q 0))]) [0] rfl ?_
  obtain ⟨n1, n0, n4, n16⟩ := hwf.n
  refine z_aload_n (pc' := 1) X dX5_tiesChanged_0 rfl 0 rfl rfl ?_
  refine z_get (pc' := 4) (C := RX5) (ref := "PivotBeats") (T := TX5) (N := 6) (v := .ref (q 37)) X dX5_tiesChanged_1 rfl hin5 0 rfl rfl 1 (by decide) (by decide +kernel) rfl rfl ?_
  refine z_aload_n (pc' := 5) X dX5_tiesChanged_4 rfl 0 rfl rfl ?_
  refine z_get (pc' := 8) (C := RX5) (ref := "PivotBeats") (T := TX5) (N := 6) (v := .ref (q 36)) X dX5_tiesChanged_5 rfl hin5 0 rfl rfl 0 (by decide) (by decide +kernel) rfl rfl ?_
  refine z_callVV (pc' := 11) (S := St) (As := [.ref (q 36)]) (rest := []) X dX5_tiesChanged_8 rfl (kX1_follow l D E q σ   (hwf)) (cwV 1 X.1.2.2.2.2 gX5_tiesChanged_X1_follow rfl rfl rfl (by decide +kernel) ⟨Nat.le_of_ble_eq_true rfl, Nat.le_of_ble_eq_true rfl⟩) 2 rfl rfl rfl rfl (Nat.le_of_ble_eq_true rfl) (fun u8 hp8 => ?_)
  obtain ⟨hn8, hj8⟩ := hp8
  refine z_aload_n (pc' := 12) X dX5_tiesChanged_11 rfl 0 rfl rfl ?_
  refine z_get (pc' := 15) (C := RX5) (ref := "PivotBeats") (T := TX5) (N := 6) (v := .ref (q 39)) X dX5_tiesChanged_12 rfl hin5 0 rfl rfl 3 (by decide) (by decide +kernel) rfl rfl ?_
  refine z_callVV (pc' := 18) (S := St) (As := []) (rest := []) X dX5_tiesChanged_15 rfl (kX0_forget l D E q u8   ) (cwV 0 X.1.2.2.2.2 gX5_tiesChanged_X0_forget rfl rfl rfl (by decide +kernel) ⟨Nat.le_of_ble_eq_true rfl, Nat.le_of_ble_eq_true rfl⟩) 4 rfl rfl rfl rfl (Nat.le_of_ble_eq_true rfl) (fun u15 hp15 => ?_)
  exact z_vret (post := (fun (uu : St) => (∀ F, (F < 10 ∨ 14 < F) → F ≠ 19 → uu F = σ F) ∧ uu 19 0 = 0 ∧ JI uu)) X dX5_tiesChanged_18 hret u15 (⟨fun F h1 h2 => by rw [hp15, ← hn8 F h1]; funext i; exact up_f _ _ _ _ h2, by rw [hp15, up_s], by rw [hp15]; exact JI.same (fun F hF => by funext i; exact up_f _ _ _ _ (by omega)) hj8⟩)
set_option maxHeartbeats 4000000 in
set_option maxRecDepth 100000 in
theorem kX5_pinHolds (l : Launch) (D : va_G) (E : Nat → Nat) (q : Nat → Nat) (σ : St) (s_ : Int) (hwf : WfC σ) (hs : 0 ≤ s_ ∧ s_ < σ 1 0) : CtI l D E yX5_pinHolds wsX5_pinHolds ({ frames := 2, cells := 0, slots := 0, locals := 43 } : Room) [.ref (q 0), .int (jI s_)] (CW E q σ) (CW E q) (fun (rv : Int) (uu : St) => σ = uu ∧ ((rv = 1 ∧ (pnH (σ 16 0) (σ 15) (σ 3 s_) = 1)) ∨ (rv = 0 ∧ ¬ (pnH (σ 16 0) (σ 15) (σ 3 s_) = 1)))) := by
  refine mk_I (cc := cX5_pinHolds) (maxL := 2) (ret := some .boolean) (by decide) rfl (Nat.le_of_ble_eq_true rfl) ?_
  intro p e s m args below meth c A X hret
  have hin5 : ∀ x ∈ u_ws RX5 TX5 6, x ∈ wsX5_pinHolds := fun _ h => List.mem_cons_of_mem _ (List.mem_append_left _ (List.mem_append_left _ (List.mem_append_right _ h)))
  have hin3 : ∀ x ∈ u_ws RX3 TX3 9, x ∈ wsX5_pinHolds := fun _ h => List.mem_cons_of_mem _ (List.mem_append_left _ (List.mem_append_right _ h))
  have hin2 : ∀ x ∈ u_ws RX2 TX2 2, x ∈ wsX5_pinHolds := fun _ h => List.mem_cons_of_mem _ (List.mem_append_right _ h)
  refine z_lv (lv' := [(0, .ref (q 0)), (1, .int (jI s_))]) [0, 1] rfl ?_
  obtain ⟨n1, n0, n4, n16⟩ := hwf.n
  have hp := hwf.2.2.1 s_ hs.1 hs.2
  refine z_aload_n (pc' := 1) X dX5_pinHolds_0 rfl 0 rfl rfl ?_
  refine z_get (pc' := 4) (C := RX5) (ref := "PivotBeats") (T := TX5) (N := 6) (v := .ref (q 36)) X dX5_pinHolds_1 rfl hin5 0 rfl rfl 0 (by decide) (by decide +kernel) rfl rfl ?_
  refine z_get (pc' := 7) (C := RX3) (ref := "PivotBeats$Piece") (T := TX3) (N := 9) (v := .ref (q 3)) X dX5_pinHolds_4 rfl hin3 1 rfl rfl 2 (by decide) (by decide +kernel) rfl rfl ?_
  refine z_iload_n (pc' := 8) X dX5_pinHolds_7 rfl 1 rfl rfl ?_
  refine z_iald (pc' := 9) (f := σ 3) (n := 7) X dX5_pinHolds_8 rfl 7 rfl (by decide) (by omega) ?_
  refine z_bipush (pc' := 11) X dX5_pinHolds_9 rfl rfl ?_
  refine z_icmp_eq (tgt := 37) (pc' := 14) X dX5_pinHolds_11 (by decide) rfl (by omega) (fun h11 => ?_) (fun h11 => ?_)
  · refine z_iconst (pc' := 38) X dX5_pinHolds_37 rfl ?_
    exact z_zret (post := (fun (rv : Int) (uu : St) => σ = uu ∧ ((rv = 1 ∧ (pnH (σ 16 0) (σ 15) (σ 3 s_) = 1)) ∨ (rv = 0 ∧ ¬ (pnH (σ 16 0) (σ 15) (σ 3 s_) = 1))))) X dX5_pinHolds_38 hret σ (by first | decide | omega) (⟨rfl, by unfold pnH; first | (rw [if_pos h11]; right; exact ⟨rfl, by omega⟩) | (rw [if_neg h11, if_neg hp27]; left; exact ⟨rfl, rfl⟩) | (rw [if_neg h11, if_pos (Decidable.not_not.mp hp27)]; right; exact ⟨rfl, by omega⟩)⟩)
  · refine z_aload_n (pc' := 15) X dX5_pinHolds_14 rfl 0 rfl rfl ?_
    refine z_get (pc' := 18) (C := RX5) (ref := "PivotBeats") (T := TX5) (N := 6) (v := .ref (q 38)) X dX5_pinHolds_15 rfl hin5 0 rfl rfl 2 (by decide) (by decide +kernel) rfl rfl ?_
    refine z_aload_n (pc' := 19) X dX5_pinHolds_18 rfl 0 rfl rfl ?_
    refine z_get (pc' := 22) (C := RX5) (ref := "PivotBeats") (T := TX5) (N := 6) (v := .ref (q 36)) X dX5_pinHolds_19 rfl hin5 0 rfl rfl 0 (by decide) (by decide +kernel) rfl rfl ?_
    refine z_get (pc' := 25) (C := RX3) (ref := "PivotBeats$Piece") (T := TX3) (N := 9) (v := .ref (q 3)) X dX5_pinHolds_22 rfl hin3 1 rfl rfl 2 (by decide) (by decide +kernel) rfl rfl ?_
    refine z_iload_n (pc' := 26) X dX5_pinHolds_25 rfl 1 rfl rfl ?_
    refine z_iald (pc' := 27) (f := σ 3) (n := 7) X dX5_pinHolds_26 rfl 7 rfl (by decide) (by omega) ?_
    refine z_callVI (pc' := 30) (S := St) (As := [.int (jI (σ 3 s_))]) (rest := []) X dX5_pinHolds_27 rfl (kX2_has l D E q σ (σ 3 s_)  (hwf) (by omega)) (cwV 1 X.1.2.2.2.2 gX5_pinHolds_X2_has rfl rfl rfl (by decide +kernel) ⟨Nat.le_of_ble_eq_true rfl, Nat.le_of_ble_eq_true rfl⟩) 3 rfl rfl rfl rfl (Nat.le_of_ble_eq_true rfl) (fun r27 u27 hp27 => ?_)
    obtain ⟨rfl, hp27⟩ := hp27
    rcases hp27 with ⟨rfl, hp27⟩ | ⟨rfl, hp27⟩
    · refine z_if_eq (tgt := 37) (pc' := 33) X dX5_pinHolds_30 (by decide) rfl (by omega) (fun h => absurd h (by decide)) (fun _ => ?_)
      refine z_iconst (pc' := 34) X dX5_pinHolds_33 rfl ?_
      refine z_goto (tgt := 38) X dX5_pinHolds_34 (by decide) ?_
      exact z_zret (post := (fun (rv : Int) (uu : St) => σ = uu ∧ ((rv = 1 ∧ (pnH (σ 16 0) (σ 15) (σ 3 s_) = 1)) ∨ (rv = 0 ∧ ¬ (pnH (σ 16 0) (σ 15) (σ 3 s_) = 1))))) X dX5_pinHolds_38 hret σ (by first | decide | omega) (⟨rfl, by unfold pnH; first | (rw [if_pos h11]; right; exact ⟨rfl, by omega⟩) | (rw [if_neg h11, if_neg hp27]; left; exact ⟨rfl, rfl⟩) | (rw [if_neg h11, if_pos (Decidable.not_not.mp hp27)]; right; exact ⟨rfl, by omega⟩)⟩)
    · refine z_if_eq (tgt := 37) (pc' := 33) X dX5_pinHolds_30 (by decide) rfl (by omega) (fun _ => ?_) (fun h => absurd h (by decide))
      refine z_iconst (pc' := 38) X dX5_pinHolds_37 rfl ?_
      exact z_zret (post := (fun (rv : Int) (uu : St) => σ = uu ∧ ((rv = 1 ∧ (pnH (σ 16 0) (σ 15) (σ 3 s_) = 1)) ∨ (rv = 0 ∧ ¬ (pnH (σ 16 0) (σ 15) (σ 3 s_) = 1))))) X dX5_pinHolds_38 hret σ (by first | decide | omega) (⟨rfl, by unfold pnH; first | (rw [if_pos h11]; right; exact ⟨rfl, by omega⟩) | (rw [if_neg h11, if_neg hp27]; left; exact ⟨rfl, rfl⟩) | (rw [if_neg h11, if_pos (Decidable.not_not.mp hp27)]; right; exact ⟨rfl, by omega⟩)⟩)
set_option maxHeartbeats 4000000 in
set_option maxRecDepth 100000 in
theorem kX5_pinsThatHold (l : Launch) (D : va_G) (E : Nat → Nat) (q : Nat → Nat) (σ : St) (hwf : WfC σ) : CtI l D E yX5_pinsThatHold wsX5_pinsThatHold ({ frames := 3, cells := 0, slots := 0, locals := 64 } : Room) [.ref (q 0)] (CW E q σ) (CW E q) (fun (rv : Int) (uu : St) => σ = uu ∧ (rv = smI (fun s => pnH (σ 16 0) (σ 15) (σ 3 s)) (σ 1 0).toNat ∧ (0 ≤ rv ∧ rv ≤ 7))) := by
  refine mk_I (cc := cX5_pinsThatHold) (maxL := 3) (ret := some .int) (by decide) rfl (Nat.le_of_ble_eq_true rfl) ?_
  intro p e s m args below meth c A X hret
  have hin5 : ∀ x ∈ u_ws RX5 TX5 6, x ∈ wsX5_pinsThatHold := fun _ h => List.mem_cons_of_mem _ (List.mem_append_left _ (List.mem_append_left _ (List.mem_append_right _ h)))
  have hin3 : ∀ x ∈ u_ws RX3 TX3 9, x ∈ wsX5_pinsThatHold := fun _ h => List.mem_cons_of_mem _ (List.mem_append_left _ (List.mem_append_right _ h))
  have hin2 : ∀ x ∈ u_ws RX2 TX2 2, x ∈ wsX5_pinsThatHold := fun _ h => List.mem_cons_of_mem _ (List.mem_append_right _ h)
  refine z_lv (lv' := [(0, .ref (q 0))]) [0] rfl ?_
  obtain ⟨n1, n0, n4, n16⟩ := hwf.n
  refine z_iconst (pc' := 1) X dX5_pinsThatHold_0 rfl ?_
  refine z_istore_n (pc' := 2) (lv' := [(1, .int (jI 0)), (0, .ref (q 0))]) X dX5_pinsThatHold_1 rfl rfl (by decide) rfl ?_
  refine z_iconst (pc' := 3) X dX5_pinsThatHold_2 rfl ?_
  refine z_istore_n (pc' := 4) (lv' := [(2, .int (jI 0)), (1, .int (jI 0)), (0, .ref (q 0))]) X dX5_pinsThatHold_3 rfl rfl (by decide) rfl ?_
  have lp4 : ∀ (nF : Nat) (s_ : Int) (n_ : Int) , ((0 ≤ s_ ∧ s_ ≤ σ 1 0) ∧ n_ = smI (fun s => pnH (σ 16 0) (σ 15) (σ 3 s)) s_.toNat ∧ (0 ≤ n_ ∧ n_ ≤ s_)) → ((7 - s_).toNat : Nat) < nF → J p l e (headSpec wsX5_pinsThatHold ({ frames := 3, cells := 0, slots := 0, locals := 64 } : Room)).room s m args below meth c D A 3 (MQ below (va_Qi (fun r u => ∃ x, r = jI x ∧ (fun (rv : Int) (uu : St) => σ = uu ∧ (rv = smI (fun s => pnH (σ 16 0) (σ 15) (σ 3 s)) (σ 1 0).toNat ∧ (0 ≤ rv ∧ rv ≤ 7))) x u) (Bw D (CW E q) A) A) args s 0 0 A) 4 [(2, .int (jI s_)), (1, .int (jI n_)), (0, .ref (q 0))] [] (CW E q σ) := by
    intro nF
    induction nF with
    | zero => intro s_ n_  hI hn; exact absurd hn (Nat.not_lt_zero _)
    | succ nF ih4 =>
      intro s_ n_  hI hn
      obtain ⟨h1, h2, h3⟩ := hI
      have h01 := pnH_01 (σ 16 0) (σ 15) (σ 3 s_)
      refine z_iload_n (pc' := 5) X dX5_pinsThatHold_4 rfl 0 rfl rfl ?_
      refine z_aload_n (pc' := 6) X dX5_pinsThatHold_5 rfl 2 rfl rfl ?_
      refine z_get (pc' := 9) (C := RX5) (ref := "PivotBeats") (T := TX5) (N := 6) (v := .ref (q 36)) X dX5_pinsThatHold_6 rfl hin5 0 rfl rfl 0 (by decide) (by decide +kernel) rfl rfl ?_
      refine z_get (pc' := 12) (C := RX3) (ref := "PivotBeats$Piece") (T := TX3) (N := 9) (v := .int (jI (σ 1 0))) X dX5_pinsThatHold_9 rfl hin3 1 rfl rfl 0 (by decide) (by decide +kernel) rfl rfl ?_
      refine z_icmp_ge (tgt := 32) (pc' := 15) X dX5_pinsThatHold_12 (by decide) rfl (by omega) (fun h12 => ?_) (fun h12 => ?_)
      · refine z_iload_n (pc' := 33) X dX5_pinsThatHold_32 rfl 1 rfl rfl ?_
        exact z_iret (post := (fun (rv : Int) (uu : St) => σ = uu ∧ (rv = smI (fun s => pnH (σ 16 0) (σ 15) (σ 3 s)) (σ 1 0).toNat ∧ (0 ≤ rv ∧ rv ≤ 7)))) X dX5_pinsThatHold_33 hret σ (⟨rfl, by rw [h2, show s_ = σ 1 0 by omega], by omega⟩)
      · refine z_aload_n (pc' := 16) X dX5_pinsThatHold_15 rfl 2 rfl rfl ?_
        refine z_iload_n (pc' := 17) X dX5_pinsThatHold_16 rfl 0 rfl rfl ?_
        refine z_callVI (pc' := 20) (S := St) (As := [.int (jI s_)]) (rest := []) X dX5_pinsThatHold_17 rfl (kX5_pinHolds l D E q σ s_  (hwf) (by omega)) (cwV 1 X.1.2.2.2.2 gX5_pinsThatHold_X5_pinHolds rfl rfl rfl (by decide +kernel) ⟨Nat.le_of_ble_eq_true rfl, Nat.le_of_ble_eq_true rfl⟩) 0 rfl rfl rfl rfl (Nat.le_of_ble_eq_true rfl) (fun r17 u17 hp17 => ?_)
        obtain ⟨rfl, hp17⟩ := hp17
        rcases hp17 with ⟨rfl, hp17⟩ | ⟨rfl, hp17⟩
        · refine z_if_eq (tgt := 26) (pc' := 23) X dX5_pinsThatHold_20 (by decide) rfl (by omega) (fun h => absurd h (by decide)) (fun _ => ?_)
          refine z_iinc (pc' := 26) (lv' := [(1, .int (jI (n_ + 1))), (2, .int (jI s_)), (0, .ref (q 0))]) X dX5_pinsThatHold_23 rfl 1 rfl (by decide) rfl ?_
          refine z_iinc (pc' := 29) (lv' := [(2, .int (jI (s_ + 1))), (1, .int (jI (n_ + 1))), (0, .ref (q 0))]) X dX5_pinsThatHold_26 rfl 1 rfl (by decide) rfl ?_
          refine z_goto (tgt := 4) X dX5_pinsThatHold_29 (by decide) ?_
          exact ih4 (s_ + 1) (n_ + 1)  (⟨by omega, by rw [smI_succ _ h1.1, ← h2]; omega, by omega⟩) (by omega)
        · refine z_if_eq (tgt := 26) (pc' := 23) X dX5_pinsThatHold_20 (by decide) rfl (by omega) (fun _ => ?_) (fun h => absurd h (by decide))
          refine z_iinc (pc' := 29) (lv' := [(2, .int (jI (s_ + 1))), (1, .int (jI n_)), (0, .ref (q 0))]) X dX5_pinsThatHold_26 rfl 0 rfl (by decide) rfl ?_
          refine z_goto (tgt := 4) X dX5_pinsThatHold_29 (by decide) ?_
          exact ih4 (s_ + 1) n_  (⟨by omega, by rw [smI_succ _ h1.1, ← h2]; omega, by omega⟩) (by omega)
  exact lp4 _ 0 0  (⟨by omega, rfl, by omega⟩) (Nat.lt_succ_self _)
set_option maxHeartbeats 4000000 in
set_option maxRecDepth 100000 in
theorem kX5_tempoPart (l : Launch) (D : va_G) (E : Nat → Nat) (q : Nat → Nat) (σ : St) (s_ which : Int) (hwf : WfC σ) (hji : JI σ) (hr : (0 ≤ s_ ∧ s_ < σ 1 0) ∧ (0 ≤ which ∧ which ≤ 1)) : CtL l D E yX5_tempoPart wsX5_tempoPart ({ frames := 2, cells := 0, slots := 0, locals := 49 } : Room) [.ref (q 0), .int (jI s_), .int (jI which)] (CW E q σ) (CW E q) (fun (rv : Int) (uu : St) => σ = uu ∧ rv = (if which = 0 then rU (σ 0 0) (σ 4 0) (σ 5) (σ 6) (σ 7) (σ 8) s_ else rL (σ 0 0) (σ 4 0) (σ 5) (σ 6) (σ 7) (σ 8) s_)) := by
  refine mk_L (cc := cX5_tempoPart) (maxL := 5) (ret := some .long) (by decide) rfl (Nat.le_of_ble_eq_true rfl) ?_
  intro p e s m args below meth c A X hret
  have hin5 : ∀ x ∈ u_ws RX5 TX5 6, x ∈ wsX5_tempoPart := fun _ h => List.mem_cons_of_mem _ (List.mem_append_left _ (List.mem_append_right _ h))
  have hin1 : ∀ x ∈ u_ws RX1 TX1 5, x ∈ wsX5_tempoPart := fun _ h => List.mem_cons_of_mem _ (List.mem_append_right _ h)
  refine z_lv (lv' := [(0, .ref (q 0)), (1, .int (jI s_)), (2, .int (jI which))]) [0, 1, 2] rfl ?_
  obtain ⟨n1, n0, n4, n16⟩ := hwf.n
  have js := hji.g hwf (s := s_) (by omega)
  have j0 := hji.g hwf (s := 0) (by omega)
  have ti := tin_all (n := σ 0 0) n0
  have eXY : σ 11 s_ - σ 11 0 = eX (σ 4 0) (σ 5) (σ 6) (σ 7) (σ 8) 0 s_ ∧ σ 12 s_ - σ 12 0 = eY (σ 4 0) (σ 5) (σ 6) (σ 7) (σ 8) 0 s_ := by unfold eX eY; rw [js.2.1, js.2.2.1, j0.2.1, j0.2.2.1]; exact ⟨rfl, rfl⟩
  refine z_aload_n (pc' := 1) X dX5_tempoPart_0 rfl 0 rfl rfl ?_
  refine z_get (pc' := 4) (C := RX5) (ref := "PivotBeats") (T := TX5) (N := 6) (v := .ref (q 37)) X dX5_tempoPart_1 rfl hin5 0 rfl rfl 1 (by decide) (by decide +kernel) rfl rfl ?_
  refine z_iconst (pc' := 5) X dX5_tempoPart_4 rfl ?_
  refine z_iload_n (pc' := 6) X dX5_tempoPart_5 rfl 1 rfl rfl ?_
  refine z_callVI (pc' := 9) (S := St) (As := [.int (jI 0), .int (jI s_)]) (rest := []) X dX5_tempoPart_6 rfl (kX1_twosBetween l D E q σ 0 s_  (by omega)) (cwV 2 X.1.2.2.2.2 gX5_tempoPart_X1_twosBetween rfl rfl rfl (by decide +kernel) ⟨Nat.le_of_ble_eq_true rfl, Nat.le_of_ble_eq_true rfl⟩) 2 rfl rfl rfl rfl (Nat.le_of_ble_eq_true rfl) (fun r6 u6 hp6 => ?_)
  obtain ⟨rfl, hp6⟩ := hp6; replace hp6 := hp6.symm; subst hp6
  refine z_aload_n (pc' := 10) X dX5_tempoPart_9 rfl 0 rfl rfl ?_
  refine z_get (pc' := 13) (C := RX5) (ref := "PivotBeats") (T := TX5) (N := 6) (v := .int (jI (σ 0 0))) X dX5_tempoPart_10 rfl hin5 0 rfl rfl 5 (by decide) (by decide +kernel) rfl rfl ?_
  refine z_iconst (pc' := 14) X dX5_tempoPart_13 rfl ?_
  refine z_callPI (pc' := 17) (S := Unit) (As := [.int (jI (σ 0 0)), .int (jI 2)]) (rest := [.int (jI (σ 11 s_ - σ 11 0))]) X dX5_tempoPart_14 rfl (kX5_countOfFactor l D E (σ 0 0) 2  (by omega)) (va_cwS 2 X.1.2.2.2.2 gX5_tempoPart_X5_countOfFactor rfl rfl rfl (by decide +kernel) ⟨Nat.le_of_ble_eq_true rfl, Nat.le_of_ble_eq_true rfl⟩) rfl rfl (Nat.le_of_ble_eq_true rfl) (fun r14 u14 hp14 => ?_)
  replace hp14 := hp14.symm; subst hp14
  refine z_iadd (pc' := 18) X dX5_tempoPart_17 rfl ?_
  refine z_istore_n (pc' := 19) (lv' := [(3, .int (jI ((σ 11 s_ - σ 11 0) + (tin 2 (σ 0 0))))), (0, .ref (q 0)), (1, .int (jI s_)), (2, .int (jI which))]) X dX5_tempoPart_18 rfl rfl (by decide) rfl ?_
  refine z_aload_n (pc' := 20) X dX5_tempoPart_19 rfl 1 rfl rfl ?_
  refine z_get (pc' := 23) (C := RX5) (ref := "PivotBeats") (T := TX5) (N := 6) (v := .ref (q 37)) X dX5_tempoPart_20 rfl hin5 0 rfl rfl 1 (by decide) (by decide +kernel) rfl rfl ?_
  refine z_iconst (pc' := 24) X dX5_tempoPart_23 rfl ?_
  refine z_iload_n (pc' := 25) X dX5_tempoPart_24 rfl 2 rfl rfl ?_
  refine z_callVI (pc' := 28) (S := St) (As := [.int (jI 0), .int (jI s_)]) (rest := []) X dX5_tempoPart_25 rfl (kX1_threesBetween l D E q σ 0 s_  (by omega)) (cwV 2 X.1.2.2.2.2 gX5_tempoPart_X1_threesBetween rfl rfl rfl (by decide +kernel) ⟨Nat.le_of_ble_eq_true rfl, Nat.le_of_ble_eq_true rfl⟩) 2 rfl rfl rfl rfl (Nat.le_of_ble_eq_true rfl) (fun r25 u25 hp25 => ?_)
  obtain ⟨rfl, hp25⟩ := hp25; replace hp25 := hp25.symm; subst hp25
  refine z_aload_n (pc' := 29) X dX5_tempoPart_28 rfl 1 rfl rfl ?_
  refine z_get (pc' := 32) (C := RX5) (ref := "PivotBeats") (T := TX5) (N := 6) (v := .int (jI (σ 0 0))) X dX5_tempoPart_29 rfl hin5 0 rfl rfl 5 (by decide) (by decide +kernel) rfl rfl ?_
  refine z_iconst (pc' := 33) X dX5_tempoPart_32 rfl ?_
  refine z_callPI (pc' := 36) (S := Unit) (As := [.int (jI (σ 0 0)), .int (jI 3)]) (rest := [.int (jI (σ 12 s_ - σ 12 0))]) X dX5_tempoPart_33 rfl (kX5_countOfFactor l D E (σ 0 0) 3  (by omega)) (va_cwS 2 X.1.2.2.2.2 gX5_tempoPart_X5_countOfFactor rfl rfl rfl (by decide +kernel) ⟨Nat.le_of_ble_eq_true rfl, Nat.le_of_ble_eq_true rfl⟩) rfl rfl (Nat.le_of_ble_eq_true rfl) (fun r33 u33 hp33 => ?_)
  replace hp33 := hp33.symm; subst hp33
  refine z_iadd (pc' := 37) X dX5_tempoPart_36 rfl ?_
  refine z_istore (pc' := 39) (lv' := [(4, .int (jI ((σ 12 s_ - σ 12 0) + (tin 3 (σ 0 0))))), (3, .int (jI ((σ 11 s_ - σ 11 0) + (tin 2 (σ 0 0))))), (0, .ref (q 0)), (1, .int (jI s_)), (2, .int (jI which))]) X dX5_tempoPart_37 rfl (by decide) rfl ?_
  refine z_aload_n (pc' := 40) X dX5_tempoPart_39 rfl 2 rfl rfl ?_
  refine z_get (pc' := 43) (C := RX5) (ref := "PivotBeats") (T := TX5) (N := 6) (v := .int (jI (σ 0 0))) X dX5_tempoPart_40 rfl hin5 0 rfl rfl 5 (by decide) (by decide +kernel) rfl rfl ?_
  refine z_callPL (pc' := 46) (S := Unit) (As := [.int (jI (σ 0 0))]) (rest := []) X dX5_tempoPart_43 rfl (kX5_restOf l D E (σ 0 0)  (by omega)) (va_cwS 1 X.1.2.2.2.2 gX5_tempoPart_X5_restOf rfl rfl rfl (by decide +kernel) ⟨Nat.le_of_ble_eq_true rfl, Nat.le_of_ble_eq_true rfl⟩) rfl rfl (Nat.le_of_ble_eq_true rfl) (fun r43 u43 hp43 => ?_)
  replace hp43 := hp43.symm; subst hp43
  refine z_iload_n (pc' := 47) X dX5_tempoPart_46 rfl 1 rfl rfl ?_
  refine z_iload (pc' := 49) X dX5_tempoPart_47 rfl 0 rfl ?_
  refine z_iload_n (pc' := 50) X dX5_tempoPart_49 rfl 4 rfl rfl ?_
  refine z_callPL (pc' := 53) (S := Unit) (As := [.long (jL (rsF (σ 0 0))), .int (jI ((σ 11 s_ - σ 11 0) + (tin 2 (σ 0 0)))), .int (jI ((σ 12 s_ - σ 12 0) + (tin 3 (σ 0 0)))), .int (jI which)]) (rest := []) X dX5_tempoPart_50 rfl (kX5_part l D E (rsF (σ 0 0)) ((σ 11 s_ - σ 11 0) + (tin 2 (σ 0 0))) ((σ 12 s_ - σ 12 0) + (tin 3 (σ 0 0))) which  (by omega)) (va_cwS 4 X.1.2.2.2.2 gX5_tempoPart_X5_part rfl rfl rfl (by decide +kernel) ⟨Nat.le_of_ble_eq_true rfl, Nat.le_of_ble_eq_true rfl⟩) rfl rfl (Nat.le_of_ble_eq_true rfl) (fun r50 u50 hp50 => ?_)
  replace hp50 := hp50.symm; subst hp50
  exact z_lret (post := (fun (rv : Int) (uu : St) => σ = uu ∧ rv = (if which = 0 then rU (σ 0 0) (σ 4 0) (σ 5) (σ 6) (σ 7) (σ 8) s_ else rL (σ 0 0) (σ 4 0) (σ 5) (σ 6) (σ 7) (σ 8) s_))) X dX5_tempoPart_53 hret σ (⟨rfl, by unfold rU rL; rw [eXY.1, eXY.2]⟩)
set_option maxHeartbeats 4000000 in
set_option maxRecDepth 100000 in
theorem kX5_nearestMark (l : Launch) (D : va_G) (E : Nat → Nat) (q : Nat → Nat) (σ : St) (s_ : Int) (hwf : WfC σ) (hji : JI σ) (hr : 0 ≤ s_ ∧ s_ < σ 1 0) : CtI l D E yX5_nearestMark wsX5_nearestMark ({ frames := 3, cells := 0, slots := 0, locals := 73 } : Room) [.ref (q 0), .int (jI s_)] (CW E q σ) (CW E q) (fun (rv : Int) (uu : St) => σ = uu ∧ rv = (if jS (σ 5) (σ 6) (σ 7) (σ 8) (σ 4 0).toNat 0 s_ = jS (σ 5) (σ 6) (σ 7) (σ 8) (σ 4 0).toNat 0 0 then (if nrI (dM (σ 0 0) (σ 4 0) (σ 5) (σ 6) (σ 7) (σ 8) (σ 15) s_) (σ 16 0).toNat = -9 then -9 else σ 15 (nrI (dM (σ 0 0) (σ 4 0) (σ 5) (σ 6) (σ 7) (σ 8) (σ 15) s_) (σ 16 0).toNat)) else -9)) := by
  refine mk_I (cc := cX5_nearestMark) (maxL := 2) (ret := some .int) (by decide) rfl (Nat.le_of_ble_eq_true rfl) ?_
  intro p e s m args below meth c A X hret
  have hin5 : ∀ x ∈ u_ws RX5 TX5 6, x ∈ wsX5_nearestMark := fun _ h => List.mem_cons_of_mem _ (List.mem_append_left _ (List.mem_append_left _ (List.mem_append_right _ h)))
  have hin1 : ∀ x ∈ u_ws RX1 TX1 5, x ∈ wsX5_nearestMark := fun _ h => List.mem_cons_of_mem _ (List.mem_append_left _ (List.mem_append_right _ h))
  have hin2 : ∀ x ∈ u_ws RX2 TX2 2, x ∈ wsX5_nearestMark := fun _ h => List.mem_cons_of_mem _ (List.mem_append_right _ h)
  refine z_lv (lv' := [(0, .ref (q 0)), (1, .int (jI s_))]) [0, 1] rfl ?_
  obtain ⟨n1, n0, n4, n16⟩ := hwf.n
  have js := hji.g hwf (s := s_) (by omega)
  have j0 := hji.g hwf (s := 0) (by omega)
  have pl : σ 10 s_ = 0 ↔ jS (σ 5) (σ 6) (σ 7) (σ 8) (σ 4 0).toNat 0 s_ = jS (σ 5) (σ 6) (σ 7) (σ 8) (σ 4 0).toNat 0 0 := by rw [js.1, jS_00 hwf.tok]
  refine z_aload_n (pc' := 1) X dX5_nearestMark_0 rfl 0 rfl rfl ?_
  refine z_get (pc' := 4) (C := RX5) (ref := "PivotBeats") (T := TX5) (N := 6) (v := .ref (q 37)) X dX5_nearestMark_1 rfl hin5 0 rfl rfl 1 (by decide) (by decide +kernel) rfl rfl ?_
  refine z_iload_n (pc' := 5) X dX5_nearestMark_4 rfl 1 rfl rfl ?_
  refine z_callVI (pc' := 8) (S := St) (As := [.int (jI s_)]) (rest := []) X dX5_nearestMark_5 rfl (kX1_isPlayed l D E q σ s_  (by omega)) (cwV 1 X.1.2.2.2.2 gX5_nearestMark_X1_isPlayed rfl rfl rfl (by decide +kernel) ⟨Nat.le_of_ble_eq_true rfl, Nat.le_of_ble_eq_true rfl⟩) 2 rfl rfl rfl rfl (Nat.le_of_ble_eq_true rfl) (fun r5 u5 hp5 => ?_)
  obtain ⟨rfl, hp5⟩ := hp5
  rcases hp5 with ⟨rfl, hp5⟩ | ⟨rfl, hp5⟩
  · refine z_if_ne (tgt := 14) (pc' := 11) X dX5_nearestMark_8 (by decide) rfl (by omega) (fun _ => ?_) (fun h => absurd h (by decide))
    have rb := rUL_bd (st := σ 0 0) rfl hwf.tok (s := s_) (by omega) (pl.mp hp5) n0
    refine z_aload_n (pc' := 15) X dX5_nearestMark_14 rfl 0 rfl rfl ?_
    refine z_get (pc' := 18) (C := RX5) (ref := "PivotBeats") (T := TX5) (N := 6) (v := .ref (q 38)) X dX5_nearestMark_15 rfl hin5 0 rfl rfl 2 (by decide) (by decide +kernel) rfl rfl ?_
    refine z_aload_n (pc' := 19) X dX5_nearestMark_18 rfl 0 rfl rfl ?_
    refine z_iload_n (pc' := 20) X dX5_nearestMark_19 rfl 1 rfl rfl ?_
    refine z_iconst (pc' := 21) X dX5_nearestMark_20 rfl ?_
    refine z_callVL (pc' := 24) (S := St) (As := [.int (jI s_), .int (jI 0)]) (rest := [.ref (q 38)]) X dX5_nearestMark_21 rfl (kX5_tempoPart l D E q σ s_ 0  (hwf) (hji) (by omega)) (cwV 2 X.1.2.2.2.2 gX5_nearestMark_X5_tempoPart rfl rfl rfl (by decide +kernel) ⟨Nat.le_of_ble_eq_true rfl, Nat.le_of_ble_eq_true rfl⟩) 0 rfl rfl rfl rfl (Nat.le_of_ble_eq_true rfl) (fun r21 u21 hp21 => ?_)
    obtain ⟨rfl, hp21⟩ := hp21; replace hp21 := hp21.symm; subst hp21
    refine z_aload_n (pc' := 25) X dX5_nearestMark_24 rfl 0 rfl rfl ?_
    refine z_iload_n (pc' := 26) X dX5_nearestMark_25 rfl 1 rfl rfl ?_
    refine z_iconst (pc' := 27) X dX5_nearestMark_26 rfl ?_
    refine z_callVL (pc' := 30) (S := St) (As := [.int (jI s_), .int (jI 1)]) (rest := [.long (jL (if 0 = 0 then rU (σ 0 0) (σ 4 0) (σ 5) (σ 6) (σ 7) (σ 8) s_ else rL (σ 0 0) (σ 4 0) (σ 5) (σ 6) (σ 7) (σ 8) s_)), .ref (q 38)]) X dX5_nearestMark_27 rfl (kX5_tempoPart l D E q σ s_ 1  (hwf) (hji) (by omega)) (cwV 2 X.1.2.2.2.2 gX5_nearestMark_X5_tempoPart rfl rfl rfl (by decide +kernel) ⟨Nat.le_of_ble_eq_true rfl, Nat.le_of_ble_eq_true rfl⟩) 0 rfl rfl rfl rfl (Nat.le_of_ble_eq_true rfl) (fun r27 u27 hp27 => ?_)
    obtain ⟨rfl, hp27⟩ := hp27; replace hp27 := hp27.symm; subst hp27
    refine z_callVI (pc' := 33) (S := St) (As := [.long (jL (if 0 = 0 then rU (σ 0 0) (σ 4 0) (σ 5) (σ 6) (σ 7) (σ 8) s_ else rL (σ 0 0) (σ 4 0) (σ 5) (σ 6) (σ 7) (σ 8) s_)), .long (jL (if 1 = 0 then rU (σ 0 0) (σ 4 0) (σ 5) (σ 6) (σ 7) (σ 8) s_ else rL (σ 0 0) (σ 4 0) (σ 5) (σ 6) (σ 7) (σ 8) s_))]) (rest := []) X dX5_nearestMark_30 rfl (kX2_nearestTo l D E q σ (if 0 = 0 then rU (σ 0 0) (σ 4 0) (σ 5) (σ 6) (σ 7) (σ 8) s_ else rL (σ 0 0) (σ 4 0) (σ 5) (σ 6) (σ 7) (σ 8) s_) (if 1 = 0 then rU (σ 0 0) (σ 4 0) (σ 5) (σ 6) (σ 7) (σ 8) s_ else rL (σ 0 0) (σ 4 0) (σ 5) (σ 6) (σ 7) (σ 8) s_)  (hwf) (by rw [if_pos rfl, if_neg (by decide)]; omega)) (cwV 2 X.1.2.2.2.2 gX5_nearestMark_X2_nearestTo rfl rfl rfl (by decide +kernel) ⟨Nat.le_of_ble_eq_true rfl, Nat.le_of_ble_eq_true rfl⟩) 3 rfl rfl rfl rfl (Nat.le_of_ble_eq_true rfl) (fun r30 u30 hp30 => ?_)
    obtain ⟨rfl, hp30⟩ := hp30; replace hp30 := hp30.symm; subst hp30
    exact z_iret (post := (fun (rv : Int) (uu : St) => σ = uu ∧ rv = (if jS (σ 5) (σ 6) (σ 7) (σ 8) (σ 4 0).toNat 0 s_ = jS (σ 5) (σ 6) (σ 7) (σ 8) (σ 4 0).toNat 0 0 then (if nrI (dM (σ 0 0) (σ 4 0) (σ 5) (σ 6) (σ 7) (σ 8) (σ 15) s_) (σ 16 0).toNat = -9 then -9 else σ 15 (nrI (dM (σ 0 0) (σ 4 0) (σ 5) (σ 6) (σ 7) (σ 8) (σ 15) s_) (σ 16 0).toNat)) else -9))) X dX5_nearestMark_33 hret σ (⟨rfl, by rw [if_pos (pl.mp hp5), if_pos rfl, if_neg (show ¬ (1 : Int) = 0 by decide), nr_r n0]⟩)
  · refine z_if_ne (tgt := 14) (pc' := 11) X dX5_nearestMark_8 (by decide) rfl (by omega) (fun h => absurd h (by decide)) (fun _ => ?_)
    refine z_bipush (pc' := 13) X dX5_nearestMark_11 rfl rfl ?_
    exact z_iret (post := (fun (rv : Int) (uu : St) => σ = uu ∧ rv = (if jS (σ 5) (σ 6) (σ 7) (σ 8) (σ 4 0).toNat 0 s_ = jS (σ 5) (σ 6) (σ 7) (σ 8) (σ 4 0).toNat 0 0 then (if nrI (dM (σ 0 0) (σ 4 0) (σ 5) (σ 6) (σ 7) (σ 8) (σ 15) s_) (σ 16 0).toNat = -9 then -9 else σ 15 (nrI (dM (σ 0 0) (σ 4 0) (σ 5) (σ 6) (σ 7) (σ 8) (σ 15) s_) (σ 16 0).toNat)) else -9))) X dX5_nearestMark_13 hret σ (⟨rfl, by rw [if_neg (fun z => hp5 (pl.mpr z))]⟩)
set_option maxHeartbeats 4000000 in
set_option maxRecDepth 100000 in
theorem kX5_lasting (l : Launch) (D : va_G) (E : Nat → Nat) (q : Nat → Nat) (σ : St) (s_ bst : Int) (hwf : WfC σ) (hji : JI σ) (hr : (0 ≤ s_ ∧ s_ < σ 1 0) ∧ (20 ≤ bst ∧ bst ≤ 400)) : CtL l D E yX5_lasting wsX5_lasting ({ frames := 2, cells := 0, slots := 0, locals := 49 } : Room) [.ref (q 0), .int (jI s_), .int (jI bst)] (CW E q σ) (CW E q) (fun (rv : Int) (uu : St) => σ = uu ∧ (rv = lsF (σ 2) bst (σ 4 0) (σ 5) (σ 6) (σ 7) (σ 8) s_ ∧ (0 ≤ rv ∧ rv ≤ 408193691811840000))) := by
  refine mk_L (cc := cX5_lasting) (maxL := 9) (ret := some .long) (by decide) rfl (Nat.le_of_ble_eq_true rfl) ?_
  intro p e s m args below meth c A X hret
  have hin5 : ∀ x ∈ u_ws RX5 TX5 6, x ∈ wsX5_lasting := fun _ h => List.mem_cons_of_mem _ (List.mem_append_left _ (List.mem_append_left _ (List.mem_append_right _ h)))
  have hin3 : ∀ x ∈ u_ws RX3 TX3 9, x ∈ wsX5_lasting := fun _ h => List.mem_cons_of_mem _ (List.mem_append_left _ (List.mem_append_right _ h))
  have hin1 : ∀ x ∈ u_ws RX1 TX1 5, x ∈ wsX5_lasting := fun _ h => List.mem_cons_of_mem _ (List.mem_append_right _ h)
  refine z_lv (lv' := [(0, .ref (q 0)), (1, .int (jI s_)), (2, .int (jI bst))]) [0, 1, 2] rfl ?_
  obtain ⟨n1, n0, n4, n16⟩ := hwf.n
  have js := hji.g hwf (s := s_) (by omega)
  have j0 := hji.g hwf (s := 0) (by omega)
  have pl : σ 10 s_ = 0 ↔ jS (σ 5) (σ 6) (σ 7) (σ 8) (σ 4 0).toNat 0 s_ = jS (σ 5) (σ 6) (σ 7) (σ 8) (σ 4 0).toNat 0 0 := by rw [js.1, jS_00 hwf.tok]
  have eXY : σ 11 s_ - σ 11 0 = eX (σ 4 0) (σ 5) (σ 6) (σ 7) (σ 8) 0 s_ ∧ σ 12 s_ - σ 12 0 = eY (σ 4 0) (σ 5) (σ 6) (σ 7) (σ 8) 0 s_ := by unfold eX eY; rw [js.2.1, js.2.2.1, j0.2.1, j0.2.2.1]; exact ⟨rfl, rfl⟩
  have hb := hwf.2.1 s_ hr.1.1 hr.1.2
  refine z_aload_n (pc' := 1) X dX5_lasting_0 rfl 0 rfl rfl ?_
  refine z_get (pc' := 4) (C := RX5) (ref := "PivotBeats") (T := TX5) (N := 6) (v := .ref (q 37)) X dX5_lasting_1 rfl hin5 0 rfl rfl 1 (by decide) (by decide +kernel) rfl rfl ?_
  refine z_iload_n (pc' := 5) X dX5_lasting_4 rfl 1 rfl rfl ?_
  refine z_callVI (pc' := 8) (S := St) (As := [.int (jI s_)]) (rest := []) X dX5_lasting_5 rfl (kX1_isPlayed l D E q σ s_  (by omega)) (cwV 1 X.1.2.2.2.2 gX5_lasting_X1_isPlayed rfl rfl rfl (by decide +kernel) ⟨Nat.le_of_ble_eq_true rfl, Nat.le_of_ble_eq_true rfl⟩) 2 rfl rfl rfl rfl (Nat.le_of_ble_eq_true rfl) (fun r5 u5 hp5 => ?_)
  obtain ⟨rfl, hp5⟩ := hp5
  rcases hp5 with ⟨rfl, hp5⟩ | ⟨rfl, hp5⟩
  · refine z_if_ne (tgt := 13) (pc' := 11) X dX5_lasting_8 (by decide) rfl (by omega) (fun _ => ?_) (fun h => absurd h (by decide))
    have rb := tUL_bd (z := bst) rfl hwf.tok (s := s_) (by omega) (pl.mp hp5) hr.2
    obtain ⟨rb1, rb2, rb3⟩ := lsA eXY rb hb
    refine z_aload_n (pc' := 14) X dX5_lasting_13 rfl 0 rfl rfl ?_
    refine z_get (pc' := 17) (C := RX5) (ref := "PivotBeats") (T := TX5) (N := 6) (v := .ref (q 37)) X dX5_lasting_14 rfl hin5 0 rfl rfl 1 (by decide) (by decide +kernel) rfl rfl ?_
    refine z_iconst (pc' := 18) X dX5_lasting_17 rfl ?_
    refine z_iload_n (pc' := 19) X dX5_lasting_18 rfl 1 rfl rfl ?_
    refine z_callVI (pc' := 22) (S := St) (As := [.int (jI 0), .int (jI s_)]) (rest := []) X dX5_lasting_19 rfl (kX1_twosBetween l D E q σ 0 s_  (by omega)) (cwV 2 X.1.2.2.2.2 gX5_lasting_X1_twosBetween rfl rfl rfl (by decide +kernel) ⟨Nat.le_of_ble_eq_true rfl, Nat.le_of_ble_eq_true rfl⟩) 2 rfl rfl rfl rfl (Nat.le_of_ble_eq_true rfl) (fun r19 u19 hp19 => ?_)
    obtain ⟨rfl, hp19⟩ := hp19; replace hp19 := hp19.symm; subst hp19
    refine z_istore_n (pc' := 23) (lv' := [(3, .int (jI (σ 11 s_ - σ 11 0))), (0, .ref (q 0)), (1, .int (jI s_)), (2, .int (jI bst))]) X dX5_lasting_22 rfl rfl (by decide) rfl ?_
    refine z_aload_n (pc' := 24) X dX5_lasting_23 rfl 1 rfl rfl ?_
    refine z_get (pc' := 27) (C := RX5) (ref := "PivotBeats") (T := TX5) (N := 6) (v := .ref (q 37)) X dX5_lasting_24 rfl hin5 0 rfl rfl 1 (by decide) (by decide +kernel) rfl rfl ?_
    refine z_iconst (pc' := 28) X dX5_lasting_27 rfl ?_
    refine z_iload_n (pc' := 29) X dX5_lasting_28 rfl 2 rfl rfl ?_
    refine z_callVI (pc' := 32) (S := St) (As := [.int (jI 0), .int (jI s_)]) (rest := []) X dX5_lasting_29 rfl (kX1_threesBetween l D E q σ 0 s_  (by omega)) (cwV 2 X.1.2.2.2.2 gX5_lasting_X1_threesBetween rfl rfl rfl (by decide +kernel) ⟨Nat.le_of_ble_eq_true rfl, Nat.le_of_ble_eq_true rfl⟩) 2 rfl rfl rfl rfl (Nat.le_of_ble_eq_true rfl) (fun r29 u29 hp29 => ?_)
    obtain ⟨rfl, hp29⟩ := hp29; replace hp29 := hp29.symm; subst hp29
    refine z_istore (pc' := 34) (lv' := [(4, .int (jI (σ 12 s_ - σ 12 0))), (3, .int (jI (σ 11 s_ - σ 11 0))), (0, .ref (q 0)), (1, .int (jI s_)), (2, .int (jI bst))]) X dX5_lasting_32 rfl (by decide) rfl ?_
    refine z_iload_n (pc' := 35) X dX5_lasting_34 rfl 4 rfl rfl ?_
    refine z_i2l (pc' := 36) X dX5_lasting_35 rfl (by omega) ?_
    refine z_iload_n (pc' := 37) X dX5_lasting_36 rfl 1 rfl rfl ?_
    refine z_iload (pc' := 39) X dX5_lasting_37 rfl 0 rfl ?_
    refine z_iconst (pc' := 40) X dX5_lasting_39 rfl ?_
    refine z_callPL (pc' := 43) (S := Unit) (As := [.long (jL bst), .int (jI (σ 11 s_ - σ 11 0)), .int (jI (σ 12 s_ - σ 12 0)), .int (jI 0)]) (rest := []) X dX5_lasting_40 rfl (kX5_part l D E bst (σ 11 s_ - σ 11 0) (σ 12 s_ - σ 12 0) 0  (by omega)) (va_cwS 4 X.1.2.2.2.2 gX5_lasting_X5_part rfl rfl rfl (by decide +kernel) ⟨Nat.le_of_ble_eq_true rfl, Nat.le_of_ble_eq_true rfl⟩) rfl rfl (Nat.le_of_ble_eq_true rfl) (fun r40 u40 hp40 => ?_)
    replace hp40 := hp40.symm; subst hp40
    refine z_lstore (pc' := 45) (lv' := [(5, .long (jL (if 0 = 0 then bst * pU (σ 11 s_ - σ 11 0) (σ 12 s_ - σ 12 0) else pU (-(σ 11 s_ - σ 11 0)) (-(σ 12 s_ - σ 12 0))))), (4, .int (jI (σ 12 s_ - σ 12 0))), (3, .int (jI (σ 11 s_ - σ 11 0))), (0, .ref (q 0)), (1, .int (jI s_)), (2, .int (jI bst))]) X dX5_lasting_43 rfl (by decide) rfl ?_
    refine z_iload_n (pc' := 46) X dX5_lasting_45 rfl 5 rfl rfl ?_
    refine z_i2l (pc' := 47) X dX5_lasting_46 rfl (by omega) ?_
    refine z_iload_n (pc' := 48) X dX5_lasting_47 rfl 2 rfl rfl ?_
    refine z_iload (pc' := 50) X dX5_lasting_48 rfl 1 rfl ?_
    refine z_iconst (pc' := 51) X dX5_lasting_50 rfl ?_
    refine z_callPL (pc' := 54) (S := Unit) (As := [.long (jL bst), .int (jI (σ 11 s_ - σ 11 0)), .int (jI (σ 12 s_ - σ 12 0)), .int (jI 1)]) (rest := []) X dX5_lasting_51 rfl (kX5_part l D E bst (σ 11 s_ - σ 11 0) (σ 12 s_ - σ 12 0) 1  (by omega)) (va_cwS 4 X.1.2.2.2.2 gX5_lasting_X5_part rfl rfl rfl (by decide +kernel) ⟨Nat.le_of_ble_eq_true rfl, Nat.le_of_ble_eq_true rfl⟩) rfl rfl (Nat.le_of_ble_eq_true rfl) (fun r51 u51 hp51 => ?_)
    replace hp51 := hp51.symm; subst hp51
    refine z_lstore (pc' := 56) (lv' := [(7, .long (jL (if 1 = 0 then bst * pU (σ 11 s_ - σ 11 0) (σ 12 s_ - σ 12 0) else pU (-(σ 11 s_ - σ 11 0)) (-(σ 12 s_ - σ 12 0))))), (5, .long (jL (if 0 = 0 then bst * pU (σ 11 s_ - σ 11 0) (σ 12 s_ - σ 12 0) else pU (-(σ 11 s_ - σ 11 0)) (-(σ 12 s_ - σ 12 0))))), (4, .int (jI (σ 12 s_ - σ 12 0))), (3, .int (jI (σ 11 s_ - σ 11 0))), (0, .ref (q 0)), (1, .int (jI s_)), (2, .int (jI bst))]) X dX5_lasting_54 rfl (by decide) rfl ?_
    refine z_lload (pc' := 58) X dX5_lasting_56 rfl 1 rfl ?_
    refine z_lconst (pc' := 59) (x := 0) X dX5_lasting_58 rfl rfl ?_
    refine z_lcmp_le (tgt := 86) (pc' := 63) X dX5_lasting_59 (pc1 := 60) rfl dX5_lasting_60 (by decide) rfl (by omega) (fun h59 => by exfalso; omega) (fun h59 => ?_)
    refine z_aload_n (pc' := 64) X dX5_lasting_63 rfl 4 rfl rfl ?_
    refine z_get (pc' := 67) (C := RX5) (ref := "PivotBeats") (T := TX5) (N := 6) (v := .ref (q 36)) X dX5_lasting_64 rfl hin5 0 rfl rfl 0 (by decide) (by decide +kernel) rfl rfl ?_
    refine z_get (pc' := 70) (C := RX3) (ref := "PivotBeats$Piece") (T := TX3) (N := 9) (v := .ref (q 2)) X dX5_lasting_67 rfl hin3 1 rfl rfl 1 (by decide) (by decide +kernel) rfl rfl ?_
    refine z_iload_n (pc' := 71) X dX5_lasting_70 rfl 5 rfl rfl ?_
    refine z_iald (pc' := 72) (f := σ 2) (n := 7) X dX5_lasting_71 rfl 6 rfl (by decide) (by omega) ?_
    refine z_i2l (pc' := 73) X dX5_lasting_72 rfl (by omega) ?_
    refine z_ldc2 (pc' := 76) (x := 60000) X dX5_lasting_73 rfl (by decide +kernel) rfl ?_
    refine z_lmul (pc' := 77) X dX5_lasting_76 rfl ?_
    refine z_lload (pc' := 79) X dX5_lasting_77 rfl 0 rfl ?_
    refine z_lmul (pc' := 80) X dX5_lasting_79 rfl ?_
    refine z_lload (pc' := 82) X dX5_lasting_80 rfl 1 rfl ?_
    refine z_ldiv (pc' := 83) X dX5_lasting_82 rfl (by exact rb3) ?_
    refine z_goto (tgt := 87) X dX5_lasting_83 (by decide) ?_
    exact z_lret (post := (fun (rv : Int) (uu : St) => σ = uu ∧ (rv = lsF (σ 2) bst (σ 4 0) (σ 5) (σ 6) (σ 7) (σ 8) s_ ∧ (0 ≤ rv ∧ rv ≤ 408193691811840000)))) X dX5_lasting_87 hret σ (⟨rfl, by unfold lsF; rw [if_pos (pl.mp hp5)]; exact lsC eXY, lsB eXY hb rb⟩)
  · refine z_if_ne (tgt := 13) (pc' := 11) X dX5_lasting_8 (by decide) rfl (by omega) (fun h => absurd h (by decide)) (fun _ => ?_)
    refine z_lconst (pc' := 12) (x := 0) X dX5_lasting_11 rfl rfl ?_
    exact z_lret (post := (fun (rv : Int) (uu : St) => σ = uu ∧ (rv = lsF (σ 2) bst (σ 4 0) (σ 5) (σ 6) (σ 7) (σ 8) s_ ∧ (0 ≤ rv ∧ rv ≤ 408193691811840000)))) X dX5_lasting_12 hret σ (⟨rfl, by unfold lsF; rw [if_neg (fun z => hp5 (pl.mpr z))], by omega⟩)
set_option maxHeartbeats 4000000 in
set_option maxRecDepth 100000 in
theorem kX5_lastingUpTo (l : Launch) (D : va_G) (E : Nat → Nat) (q : Nat → Nat) (σ : St) (behind bst : Int) (hwf : WfC σ) (hji : JI σ) (hr : (0 ≤ behind ∧ behind ≤ σ 1 0) ∧ (20 ≤ bst ∧ bst ≤ 400)) : CtL l D E yX5_lastingUpTo wsX5_lastingUpTo ({ frames := 3, cells := 0, slots := 0, locals := 77 } : Room) [.ref (q 0), .int (jI behind), .int (jI bst)] (CW E q σ) (CW E q) (fun (rv : Int) (uu : St) => σ = uu ∧ (rv = smI (lsF (σ 2) bst (σ 4 0) (σ 5) (σ 6) (σ 7) (σ 8)) behind.toNat ∧ (0 ≤ rv ∧ rv ≤ 408193691811840000 * 7))) := by
  refine mk_L (cc := cX5_lastingUpTo) (maxL := 6) (ret := some .long) (by decide) rfl (Nat.le_of_ble_eq_true rfl) ?_
  intro p e s m args below meth c A X hret
  have hin5 : ∀ x ∈ u_ws RX5 TX5 6, x ∈ wsX5_lastingUpTo := fun _ h => List.mem_cons_of_mem _ (List.mem_append_left _ (List.mem_append_left _ (List.mem_append_right _ h)))
  have hin3 : ∀ x ∈ u_ws RX3 TX3 9, x ∈ wsX5_lastingUpTo := fun _ h => List.mem_cons_of_mem _ (List.mem_append_left _ (List.mem_append_right _ h))
  have hin1 : ∀ x ∈ u_ws RX1 TX1 5, x ∈ wsX5_lastingUpTo := fun _ h => List.mem_cons_of_mem _ (List.mem_append_right _ h)
  refine z_lv (lv' := [(0, .ref (q 0)), (1, .int (jI behind)), (2, .int (jI bst))]) [0, 1, 2] rfl ?_
  obtain ⟨n1, n0, n4, n16⟩ := hwf.n
  refine z_lconst (pc' := 1) (x := 0) X dX5_lastingUpTo_0 rfl rfl ?_
  refine z_lstore_n (pc' := 2) (lv' := [(3, .long (jL 0)), (0, .ref (q 0)), (1, .int (jI behind)), (2, .int (jI bst))]) X dX5_lastingUpTo_1 rfl rfl (by decide) rfl ?_
  refine z_iconst (pc' := 3) X dX5_lastingUpTo_2 rfl ?_
  refine z_istore (pc' := 5) (lv' := [(5, .int (jI 0)), (3, .long (jL 0)), (0, .ref (q 0)), (1, .int (jI behind)), (2, .int (jI bst))]) X dX5_lastingUpTo_3 rfl (by decide) rfl ?_
  have lp5 : ∀ (nF : Nat) (x : Int) (sum : Int) , ((0 ≤ x ∧ x ≤ behind) ∧ sum = smI (lsF (σ 2) bst (σ 4 0) (σ 5) (σ 6) (σ 7) (σ 8)) x.toNat ∧ (0 ≤ sum ∧ sum ≤ 408193691811840000 * x)) → ((7 - x).toNat : Nat) < nF → J p l e (headSpec wsX5_lastingUpTo ({ frames := 3, cells := 0, slots := 0, locals := 77 } : Room)).room s m args below meth c D A 6 (MQ below (va_Ql (fun r u => ∃ x, r = jL x ∧ (fun (rv : Int) (uu : St) => σ = uu ∧ (rv = smI (lsF (σ 2) bst (σ 4 0) (σ 5) (σ 6) (σ 7) (σ 8)) behind.toNat ∧ (0 ≤ rv ∧ rv ≤ 408193691811840000 * 7))) x u) (Bw D (CW E q) A) A) args s 0 0 A) 5 [(5, .int (jI x)), (3, .long (jL sum)), (0, .ref (q 0)), (1, .int (jI behind)), (2, .int (jI bst))] [] (CW E q σ) := by
    intro nF
    induction nF with
    | zero => intro x sum  hI hn; exact absurd hn (Nat.not_lt_zero _)
    | succ nF ih5 =>
      intro x sum  hI hn
      obtain ⟨h1, h2, h3⟩ := hI
      refine z_iload (pc' := 7) X dX5_lastingUpTo_5 rfl 0 rfl ?_
      refine z_iload_n (pc' := 8) X dX5_lastingUpTo_7 rfl 3 rfl rfl ?_
      refine z_icmp_ge (tgt := 34) (pc' := 11) X dX5_lastingUpTo_8 (by decide) rfl (by omega) (fun h8 => ?_) (fun h8 => ?_)
      · refine z_lload_n (pc' := 35) X dX5_lastingUpTo_34 rfl 1 rfl rfl ?_
        exact z_lret (post := (fun (rv : Int) (uu : St) => σ = uu ∧ (rv = smI (lsF (σ 2) bst (σ 4 0) (σ 5) (σ 6) (σ 7) (σ 8)) behind.toNat ∧ (0 ≤ rv ∧ rv ≤ 408193691811840000 * 7)))) X dX5_lastingUpTo_35 hret σ (⟨rfl, by rw [h2, show x = behind by omega], by omega⟩)
      · refine z_iload (pc' := 13) X dX5_lastingUpTo_11 rfl 0 rfl ?_
        refine z_bipush (pc' := 15) X dX5_lastingUpTo_13 rfl rfl ?_
        refine z_icmp_ge (tgt := 34) (pc' := 18) X dX5_lastingUpTo_15 (by decide) rfl (by omega) (fun h15 => by exfalso; omega) (fun h15 => ?_)
        refine z_lload_n (pc' := 19) X dX5_lastingUpTo_18 rfl 1 rfl rfl ?_
        refine z_aload_n (pc' := 20) X dX5_lastingUpTo_19 rfl 2 rfl rfl ?_
        refine z_iload (pc' := 22) X dX5_lastingUpTo_20 rfl 0 rfl ?_
        refine z_iload_n (pc' := 23) X dX5_lastingUpTo_22 rfl 4 rfl rfl ?_
        refine z_callVL (pc' := 26) (S := St) (As := [.int (jI x), .int (jI bst)]) (rest := [.long (jL sum)]) X dX5_lastingUpTo_23 rfl (kX5_lasting l D E q σ x bst  (hwf) (hji) (by omega)) (cwV 2 X.1.2.2.2.2 gX5_lastingUpTo_X5_lasting rfl rfl rfl (by decide +kernel) ⟨Nat.le_of_ble_eq_true rfl, Nat.le_of_ble_eq_true rfl⟩) 0 rfl rfl rfl rfl (Nat.le_of_ble_eq_true rfl) (fun r23 u23 hp23 => ?_)
        obtain ⟨rfl, hp23⟩ := hp23
        obtain ⟨er23, eb23⟩ := hp23
        refine z_ladd (pc' := 27) X dX5_lastingUpTo_26 rfl ?_
        refine z_lstore_n (pc' := 28) (lv' := [(3, .long (jL (sum + r23))), (5, .int (jI x)), (0, .ref (q 0)), (1, .int (jI behind)), (2, .int (jI bst))]) X dX5_lastingUpTo_27 rfl rfl (by decide) rfl ?_
        refine z_iinc (pc' := 31) (lv' := [(5, .int (jI (x + 1))), (3, .long (jL (sum + r23))), (0, .ref (q 0)), (1, .int (jI behind)), (2, .int (jI bst))]) X dX5_lastingUpTo_28 rfl 1 rfl (by decide) rfl ?_
        refine z_goto (tgt := 5) X dX5_lastingUpTo_31 (by decide) ?_
        exact ih5 (x + 1) (sum + r23)  (⟨by omega, by rw [smI_succ _ h1.1, ← h2, er23], by omega⟩) (by omega)
  exact lp5 _ 0 0  (⟨by omega, rfl, by omega⟩) (Nat.lt_succ_self _)
set_option maxHeartbeats 4000000 in
set_option maxRecDepth 100000 in
theorem kX5_section (l : Launch) (D : va_G) (E : Nat → Nat) (q : Nat → Nat) (σ : St) (beats : Int) (hwf : WfC σ) (hr : (-2147483648 ≤ beats ∧ beats < 2147483648)) : CtI l D E yX5_section wsX5_section ({ frames := 5, cells := 0, slots := 0, locals := 138 } : Room) [.ref (q 0), .int (jI beats)] (CW E q σ) (CW E q) (fun (rv : Int) (uu : St) => ((¬ (1 ≤ beats ∧ beats ≤ 99) ∧ rv = -2 ∧ uu = σ) ∨ ((1 ≤ beats ∧ beats ≤ 99) ∧ σ 1 0 = 7 ∧ rv = -4 ∧ uu = σ) ∨ ((1 ≤ beats ∧ beats ≤ 99) ∧ ¬ σ 1 0 = 7 ∧ rv = σ 1 0 ∧ (∀ F, (F < 10 ∨ 14 < F) → F ≠ 19 → uu F = (up (up (up σ 2 (σ 1 0) beats) 3 (σ 1 0) (-9)) 1 0 (σ 1 0 + 1)) F) ∧ uu 19 0 = 0 ∧ JI uu ∧ WfC uu))) := by
  refine mk_I (cc := cX5_section) (maxL := 3) (ret := some .int) (by decide) rfl (Nat.le_of_ble_eq_true rfl) ?_
  intro p e s m args below meth c A X hret
  have hin5 : ∀ x ∈ u_ws RX5 TX5 6, x ∈ wsX5_section := fun _ h => List.mem_cons_of_mem _ (List.mem_append_left _ (List.mem_append_left _ (List.mem_append_left _ (List.mem_append_right _ h))))
  have hin3 : ∀ x ∈ u_ws RX3 TX3 9, x ∈ wsX5_section := fun _ h => List.mem_cons_of_mem _ (List.mem_append_left _ (List.mem_append_left _ (List.mem_append_right _ h)))
  have hin1 : ∀ x ∈ u_ws RX1 TX1 5, x ∈ wsX5_section := fun _ h => List.mem_cons_of_mem _ (List.mem_append_left _ (List.mem_append_right _ h))
  have hin0 : ∀ x ∈ u_ws RX0 TX0 9, x ∈ wsX5_section := fun _ h => List.mem_cons_of_mem _ (List.mem_append_right _ h)
  refine z_lv (lv' := [(0, .ref (q 0)), (1, .int (jI beats))]) [0, 1] rfl ?_
  obtain ⟨n1, n0, n4, n16⟩ := hwf.n
  refine z_iload_n (pc' := 1) X dX5_section_0 rfl 1 rfl rfl ?_
  refine z_callPI (pc' := 4) (S := Unit) (As := [.int (jI beats)]) (rest := []) X dX5_section_1 rfl (kX5_isBeats l D E beats  (by omega)) (va_cwS 1 X.1.2.2.2.2 gX5_section_X5_isBeats rfl rfl rfl (by decide +kernel) ⟨Nat.le_of_ble_eq_true rfl, Nat.le_of_ble_eq_true rfl⟩) rfl rfl (Nat.le_of_ble_eq_true rfl) (fun r1 u1 hp1 => ?_)
  skip
  rcases hp1 with ⟨rfl, hp1⟩ | ⟨rfl, hp1⟩
  · refine z_if_ne (tgt := 10) (pc' := 7) X dX5_section_4 (by decide) rfl (by omega) (fun _ => ?_) (fun h => absurd h (by decide))
    refine z_aload_n (pc' := 11) X dX5_section_10 rfl 0 rfl rfl ?_
    refine z_get (pc' := 14) (C := RX5) (ref := "PivotBeats") (T := TX5) (N := 6) (v := .ref (q 36)) X dX5_section_11 rfl hin5 0 rfl rfl 0 (by decide) (by decide +kernel) rfl rfl ?_
    refine z_get (pc' := 17) (C := RX3) (ref := "PivotBeats$Piece") (T := TX3) (N := 9) (v := .int (jI (σ 1 0))) X dX5_section_14 rfl hin3 1 rfl rfl 0 (by decide) (by decide +kernel) rfl rfl ?_
    refine z_bipush (pc' := 19) X dX5_section_17 rfl rfl ?_
    refine z_icmp_lt (tgt := 25) (pc' := 22) X dX5_section_19 (by decide) rfl (by omega) (fun h19 => ?_) (fun h19 => ?_)
    · refine z_aload_n (pc' := 26) X dX5_section_25 rfl 0 rfl rfl ?_
      refine z_get (pc' := 29) (C := RX5) (ref := "PivotBeats") (T := TX5) (N := 6) (v := .ref (q 36)) X dX5_section_26 rfl hin5 0 rfl rfl 0 (by decide) (by decide +kernel) rfl rfl ?_
      refine z_iload_n (pc' := 30) X dX5_section_29 rfl 1 rfl rfl ?_
      refine z_callVI (pc' := 33) (S := St) (As := [.int (jI beats)]) (rest := []) X dX5_section_30 rfl (kX3_addSection l D E q σ beats  (hwf) (by omega)) (cwV 1 X.1.2.2.2.2 gX5_section_X3_addSection rfl rfl rfl (by decide +kernel) ⟨Nat.le_of_ble_eq_true rfl, Nat.le_of_ble_eq_true rfl⟩) 1 rfl rfl rfl rfl (Nat.le_of_ble_eq_true rfl) (fun r30 u30 hp30 => ?_)
      obtain ⟨er30, eu30⟩ := hp30
      have w30 : WfC u30 := by rw [eu30]; exact wf_sec hwf hp1 (by omega)
      refine z_istore_n (pc' := 34) (lv' := [(2, .int (jI r30)), (0, .ref (q 0)), (1, .int (jI beats))]) X dX5_section_33 rfl rfl (by decide) rfl ?_
      refine z_aload_n (pc' := 35) X dX5_section_34 rfl 1 rfl rfl ?_
      refine z_callVV (pc' := 38) (S := St) (As := []) (rest := []) X dX5_section_35 rfl (kX5_tiesChanged l D E q u30   (w30)) (cwV 0 X.1.2.2.2.2 gX5_section_X5_tiesChanged rfl rfl rfl (by decide +kernel) ⟨Nat.le_of_ble_eq_true rfl, Nat.le_of_ble_eq_true rfl⟩) 0 rfl rfl rfl rfl (Nat.le_of_ble_eq_true rfl) (fun u35 hp35 => ?_)
      obtain ⟨hn35, hz35, hj35⟩ := hp35
      refine z_iload_n (pc' := 39) X dX5_section_38 rfl 0 rfl rfl ?_
      exact z_iret (post := (fun (rv : Int) (uu : St) => ((¬ (1 ≤ beats ∧ beats ≤ 99) ∧ rv = -2 ∧ uu = σ) ∨ ((1 ≤ beats ∧ beats ≤ 99) ∧ σ 1 0 = 7 ∧ rv = -4 ∧ uu = σ) ∨ ((1 ≤ beats ∧ beats ≤ 99) ∧ ¬ σ 1 0 = 7 ∧ rv = σ 1 0 ∧ (∀ F, (F < 10 ∨ 14 < F) → F ≠ 19 → uu F = (up (up (up σ 2 (σ 1 0) beats) 3 (σ 1 0) (-9)) 1 0 (σ 1 0 + 1)) F) ∧ uu 19 0 = 0 ∧ JI uu ∧ WfC uu)))) X dX5_section_39 hret u35 (Or.inr (Or.inr ⟨hp1, by omega, er30, by rw [← eu30]; exact hn35, hz35, hj35, eqC.wf (fun F hF => hn35 F (by omega) (by omega)) w30⟩))
    · refine z_bipush (pc' := 24) X dX5_section_22 rfl rfl ?_
      exact z_iret (post := (fun (rv : Int) (uu : St) => ((¬ (1 ≤ beats ∧ beats ≤ 99) ∧ rv = -2 ∧ uu = σ) ∨ ((1 ≤ beats ∧ beats ≤ 99) ∧ σ 1 0 = 7 ∧ rv = -4 ∧ uu = σ) ∨ ((1 ≤ beats ∧ beats ≤ 99) ∧ ¬ σ 1 0 = 7 ∧ rv = σ 1 0 ∧ (∀ F, (F < 10 ∨ 14 < F) → F ≠ 19 → uu F = (up (up (up σ 2 (σ 1 0) beats) 3 (σ 1 0) (-9)) 1 0 (σ 1 0 + 1)) F) ∧ uu 19 0 = 0 ∧ JI uu ∧ WfC uu)))) X dX5_section_24 hret σ (Or.inr (Or.inl ⟨hp1, by omega, rfl, rfl⟩))
  · refine z_if_ne (tgt := 10) (pc' := 7) X dX5_section_4 (by decide) rfl (by omega) (fun h => absurd h (by decide)) (fun _ => ?_)
    refine z_bipush (pc' := 9) X dX5_section_7 rfl rfl ?_
    exact z_iret (post := (fun (rv : Int) (uu : St) => ((¬ (1 ≤ beats ∧ beats ≤ 99) ∧ rv = -2 ∧ uu = σ) ∨ ((1 ≤ beats ∧ beats ≤ 99) ∧ σ 1 0 = 7 ∧ rv = -4 ∧ uu = σ) ∨ ((1 ≤ beats ∧ beats ≤ 99) ∧ ¬ σ 1 0 = 7 ∧ rv = σ 1 0 ∧ (∀ F, (F < 10 ∨ 14 < F) → F ≠ 19 → uu F = (up (up (up σ 2 (σ 1 0) beats) 3 (σ 1 0) (-9)) 1 0 (σ 1 0 + 1)) F) ∧ uu 19 0 = 0 ∧ JI uu ∧ WfC uu)))) X dX5_section_9 hret σ (Or.inl ⟨hp1, rfl, rfl⟩)
set_option maxHeartbeats 4000000 in
set_option maxRecDepth 100000 in
theorem kX5_beats (l : Launch) (D : va_G) (E : Nat → Nat) (q : Nat → Nat) (σ : St) (s_ v : Int) (hwf : WfC σ) (hr : (-2147483648 ≤ s_ ∧ s_ < 2147483648) ∧ (-2147483648 ≤ v ∧ v < 2147483648)) : CtI l D E yX5_beats wsX5_beats ({ frames := 1, cells := 0, slots := 0, locals := 21 } : Room) [.ref (q 0), .int (jI s_), .int (jI v)] (CW E q σ) (CW E q) (fun (rv : Int) (uu : St) => ((¬ (0 ≤ s_ ∧ s_ < σ 1 0) ∧ rv = -1 ∧ uu = σ) ∨ ((0 ≤ s_ ∧ s_ < σ 1 0) ∧ ¬ (1 ≤ v ∧ v ≤ 99) ∧ rv = -2 ∧ uu = σ) ∨ ((0 ≤ s_ ∧ s_ < σ 1 0) ∧ (1 ≤ v ∧ v ≤ 99) ∧ rv = σ 2 s_ ∧ uu = up σ 2 s_ v))) := by
  refine mk_I (cc := cX5_beats) (maxL := 4) (ret := some .int) (by decide) rfl (Nat.le_of_ble_eq_true rfl) ?_
  intro p e s m args below meth c A X hret
  have hin5 : ∀ x ∈ u_ws RX5 TX5 6, x ∈ wsX5_beats := fun _ h => List.mem_cons_of_mem _ (List.mem_append_left _ (List.mem_append_right _ h))
  have hin3 : ∀ x ∈ u_ws RX3 TX3 9, x ∈ wsX5_beats := fun _ h => List.mem_cons_of_mem _ (List.mem_append_right _ h)
  refine z_lv (lv' := [(0, .ref (q 0)), (1, .int (jI s_)), (2, .int (jI v))]) [0, 1, 2] rfl ?_
  obtain ⟨n1, n0, n4, n16⟩ := hwf.n
  refine z_aload_n (pc' := 1) X dX5_beats_0 rfl 0 rfl rfl ?_
  refine z_iload_n (pc' := 2) X dX5_beats_1 rfl 1 rfl rfl ?_
  refine z_callVI (pc' := 5) (S := St) (As := [.int (jI s_)]) (rest := []) X dX5_beats_2 rfl (kX5_isSection l D E q σ s_  (hwf) (by omega)) (cwV 1 X.1.2.2.2.2 gX5_beats_X5_isSection rfl rfl rfl (by decide +kernel) ⟨Nat.le_of_ble_eq_true rfl, Nat.le_of_ble_eq_true rfl⟩) 0 rfl rfl rfl rfl (Nat.le_of_ble_eq_true rfl) (fun r2 u2 hp2 => ?_)
  obtain ⟨rfl, hp2⟩ := hp2
  rcases hp2 with ⟨rfl, hp2⟩ | ⟨rfl, hp2⟩
  · refine z_if_ne (tgt := 10) (pc' := 8) X dX5_beats_5 (by decide) rfl (by omega) (fun _ => ?_) (fun h => absurd h (by decide))
    refine z_iload_n (pc' := 11) X dX5_beats_10 rfl 2 rfl rfl ?_
    refine z_callPI (pc' := 14) (S := Unit) (As := [.int (jI v)]) (rest := []) X dX5_beats_11 rfl (kX5_isBeats l D E v  (by omega)) (va_cwS 1 X.1.2.2.2.2 gX5_beats_X5_isBeats rfl rfl rfl (by decide +kernel) ⟨Nat.le_of_ble_eq_true rfl, Nat.le_of_ble_eq_true rfl⟩) rfl rfl (Nat.le_of_ble_eq_true rfl) (fun r11 u11 hp11 => ?_)
    skip
    rcases hp11 with ⟨rfl, hp11⟩ | ⟨rfl, hp11⟩
    · refine z_if_ne (tgt := 20) (pc' := 17) X dX5_beats_14 (by decide) rfl (by omega) (fun _ => ?_) (fun h => absurd h (by decide))
      refine z_aload_n (pc' := 21) X dX5_beats_20 rfl 0 rfl rfl ?_
      refine z_get (pc' := 24) (C := RX5) (ref := "PivotBeats") (T := TX5) (N := 6) (v := .ref (q 36)) X dX5_beats_21 rfl hin5 0 rfl rfl 0 (by decide) (by decide +kernel) rfl rfl ?_
      refine z_get (pc' := 27) (C := RX3) (ref := "PivotBeats$Piece") (T := TX3) (N := 9) (v := .ref (q 2)) X dX5_beats_24 rfl hin3 1 rfl rfl 1 (by decide) (by decide +kernel) rfl rfl ?_
      refine z_iload_n (pc' := 28) X dX5_beats_27 rfl 1 rfl rfl ?_
      refine z_iald (pc' := 29) (f := σ 2) (n := 7) X dX5_beats_28 rfl 6 rfl (by decide) (by omega) ?_
      refine z_istore_n (pc' := 30) (lv' := [(3, .int (jI (σ 2 s_))), (0, .ref (q 0)), (1, .int (jI s_)), (2, .int (jI v))]) X dX5_beats_29 rfl rfl (by decide) rfl ?_
      refine z_aload_n (pc' := 31) X dX5_beats_30 rfl 1 rfl rfl ?_
      refine z_get (pc' := 34) (C := RX5) (ref := "PivotBeats") (T := TX5) (N := 6) (v := .ref (q 36)) X dX5_beats_31 rfl hin5 0 rfl rfl 0 (by decide) (by decide +kernel) rfl rfl ?_
      refine z_get (pc' := 37) (C := RX3) (ref := "PivotBeats$Piece") (T := TX3) (N := 9) (v := .ref (q 2)) X dX5_beats_34 rfl hin3 1 rfl rfl 1 (by decide) (by decide +kernel) rfl rfl ?_
      refine z_iload_n (pc' := 38) X dX5_beats_37 rfl 2 rfl rfl ?_
      refine z_iload_n (pc' := 39) X dX5_beats_38 rfl 3 rfl rfl ?_
      refine z_iast (pc' := 40) (f := σ 2) (n := 7) (w' := CW E q (up σ 2 s_ v)) X dX5_beats_39 rfl 6 rfl (by decide) (by omega) rfl ?_
      refine z_iload_n (pc' := 41) X dX5_beats_40 rfl 0 rfl rfl ?_
      exact z_iret (post := (fun (rv : Int) (uu : St) => ((¬ (0 ≤ s_ ∧ s_ < σ 1 0) ∧ rv = -1 ∧ uu = σ) ∨ ((0 ≤ s_ ∧ s_ < σ 1 0) ∧ ¬ (1 ≤ v ∧ v ≤ 99) ∧ rv = -2 ∧ uu = σ) ∨ ((0 ≤ s_ ∧ s_ < σ 1 0) ∧ (1 ≤ v ∧ v ≤ 99) ∧ rv = σ 2 s_ ∧ uu = up σ 2 s_ v)))) X dX5_beats_41 hret (up σ 2 s_ v) (Or.inr (Or.inr ⟨hp2, hp11, rfl, rfl⟩))
    · refine z_if_ne (tgt := 20) (pc' := 17) X dX5_beats_14 (by decide) rfl (by omega) (fun h => absurd h (by decide)) (fun _ => ?_)
      refine z_bipush (pc' := 19) X dX5_beats_17 rfl rfl ?_
      exact z_iret (post := (fun (rv : Int) (uu : St) => ((¬ (0 ≤ s_ ∧ s_ < σ 1 0) ∧ rv = -1 ∧ uu = σ) ∨ ((0 ≤ s_ ∧ s_ < σ 1 0) ∧ ¬ (1 ≤ v ∧ v ≤ 99) ∧ rv = -2 ∧ uu = σ) ∨ ((0 ≤ s_ ∧ s_ < σ 1 0) ∧ (1 ≤ v ∧ v ≤ 99) ∧ rv = σ 2 s_ ∧ uu = up σ 2 s_ v)))) X dX5_beats_19 hret σ (Or.inr (Or.inl ⟨hp2, hp11, rfl, rfl⟩))
  · refine z_if_ne (tgt := 10) (pc' := 8) X dX5_beats_5 (by decide) rfl (by omega) (fun h => absurd h (by decide)) (fun _ => ?_)
    refine z_iconst (pc' := 9) X dX5_beats_8 rfl ?_
    exact z_iret (post := (fun (rv : Int) (uu : St) => ((¬ (0 ≤ s_ ∧ s_ < σ 1 0) ∧ rv = -1 ∧ uu = σ) ∨ ((0 ≤ s_ ∧ s_ < σ 1 0) ∧ ¬ (1 ≤ v ∧ v ≤ 99) ∧ rv = -2 ∧ uu = σ) ∨ ((0 ≤ s_ ∧ s_ < σ 1 0) ∧ (1 ≤ v ∧ v ≤ 99) ∧ rv = σ 2 s_ ∧ uu = up σ 2 s_ v)))) X dX5_beats_9 hret σ (Or.inl ⟨hp2, rfl, rfl⟩)
set_option maxHeartbeats 4000000 in
set_option maxRecDepth 100000 in
theorem kX5_start (l : Launch) (D : va_G) (E : Nat → Nat) (q : Nat → Nat) (σ : St) (v : Int) (hwf : WfC σ) (hr : (-2147483648 ≤ v ∧ v < 2147483648)) : CtI l D E yX5_start wsX5_start ({ frames := 1, cells := 0, slots := 0, locals := 20 } : Room) [.ref (q 0), .int (jI v)] (CW E q σ) (CW E q) (fun (rv : Int) (uu : St) => ((¬ (20 ≤ v ∧ v ≤ 400) ∧ rv = -2 ∧ uu = σ) ∨ ((20 ≤ v ∧ v ≤ 400) ∧ rv = σ 0 0 ∧ uu = up σ 0 0 v))) := by
  refine mk_I (cc := cX5_start) (maxL := 3) (ret := some .int) (by decide) rfl (Nat.le_of_ble_eq_true rfl) ?_
  intro p e s m args below meth c A X hret
  have hin5 : ∀ x ∈ u_ws RX5 TX5 6, x ∈ wsX5_start := fun _ h => List.mem_cons_of_mem _ (List.mem_append_right _ h)
  refine z_lv (lv' := [(0, .ref (q 0)), (1, .int (jI v))]) [0, 1] rfl ?_
  obtain ⟨n1, n0, n4, n16⟩ := hwf.n
  refine z_iload_n (pc' := 1) X dX5_start_0 rfl 1 rfl rfl ?_
  refine z_callPI (pc' := 4) (S := Unit) (As := [.int (jI v)]) (rest := []) X dX5_start_1 rfl (kX5_isWholeTempo l D E v  (by omega)) (va_cwS 1 X.1.2.2.2.2 gX5_start_X5_isWholeTempo rfl rfl rfl (by decide +kernel) ⟨Nat.le_of_ble_eq_true rfl, Nat.le_of_ble_eq_true rfl⟩) rfl rfl (Nat.le_of_ble_eq_true rfl) (fun r1 u1 hp1 => ?_)
  skip
  rcases hp1 with ⟨rfl, hp1⟩ | ⟨rfl, hp1⟩
  · refine z_if_ne (tgt := 10) (pc' := 7) X dX5_start_4 (by decide) rfl (by omega) (fun _ => ?_) (fun h => absurd h (by decide))
    refine z_aload_n (pc' := 11) X dX5_start_10 rfl 0 rfl rfl ?_
    refine z_get (pc' := 14) (C := RX5) (ref := "PivotBeats") (T := TX5) (N := 6) (v := .int (jI (σ 0 0))) X dX5_start_11 rfl hin5 0 rfl rfl 5 (by decide) (by decide +kernel) rfl rfl ?_
    refine z_istore_n (pc' := 15) (lv' := [(2, .int (jI (σ 0 0))), (0, .ref (q 0)), (1, .int (jI v))]) X dX5_start_14 rfl rfl (by decide) rfl ?_
    refine z_aload_n (pc' := 16) X dX5_start_15 rfl 1 rfl rfl ?_
    refine z_iload_n (pc' := 17) X dX5_start_16 rfl 2 rfl rfl ?_
    refine z_put (pc' := 20) (C := RX5) (ref := "PivotBeats") (T := TX5) (N := 6) (ty := .int) (w' := CW E q (up σ 0 0 v)) X dX5_start_17 rfl hin5 tyX5 tyX5_ok nmX5 0 rfl rfl 5 (by decide) (by decide +kernel) rfl rfl (by decide +kernel) rfl rfl (Nat.le_of_ble_eq_true rfl) rfl ?_
    refine z_iload_n (pc' := 21) X dX5_start_20 rfl 0 rfl rfl ?_
    exact z_iret (post := (fun (rv : Int) (uu : St) => ((¬ (20 ≤ v ∧ v ≤ 400) ∧ rv = -2 ∧ uu = σ) ∨ ((20 ≤ v ∧ v ≤ 400) ∧ rv = σ 0 0 ∧ uu = up σ 0 0 v)))) X dX5_start_21 hret (up σ 0 0 v) (by first | exact Or.inl ⟨by omega, rfl, rfl⟩ | exact Or.inr ⟨by omega, rfl, rfl⟩)
  · refine z_if_ne (tgt := 10) (pc' := 7) X dX5_start_4 (by decide) rfl (by omega) (fun h => absurd h (by decide)) (fun _ => ?_)
    refine z_bipush (pc' := 9) X dX5_start_7 rfl rfl ?_
    exact z_iret (post := (fun (rv : Int) (uu : St) => ((¬ (20 ≤ v ∧ v ≤ 400) ∧ rv = -2 ∧ uu = σ) ∨ ((20 ≤ v ∧ v ≤ 400) ∧ rv = σ 0 0 ∧ uu = up σ 0 0 v)))) X dX5_start_9 hret σ (by first | exact Or.inl ⟨by omega, rfl, rfl⟩ | exact Or.inr ⟨by omega, rfl, rfl⟩)
set_option maxHeartbeats 4000000 in
set_option maxRecDepth 100000 in
theorem kX5_tie (l : Launch) (D : va_G) (E : Nat → Nat) (q : Nat → Nat) (σ : St) (a v b w ear : Int) (hwf : WfC σ) (hr : (-2147483648 ≤ a ∧ a < 2147483648) ∧ (-2147483648 ≤ v ∧ v < 2147483648) ∧ (-2147483648 ≤ b ∧ b < 2147483648) ∧ (-2147483648 ≤ w ∧ w < 2147483648) ∧ (-2147483648 ≤ ear ∧ ear < 2147483648)) : CtI l D E yX5_tie wsX5_tie ({ frames := 5, cells := 0, slots := 0, locals := 138 } : Room) [.ref (q 0), .int (jI a), .int (jI v), .int (jI b), .int (jI w), .int (jI ear)] (CW E q σ) (CW E q) (fun (rv : Int) (uu : St) => ((¬ ((0 ≤ a ∧ a < σ 1 0) ∧ (0 ≤ b ∧ b < σ 1 0) ∧ ¬ a = b ∧ (0 ≤ v ∧ v ≤ 19) ∧ (0 ≤ w ∧ w ≤ 19)) ∧ rv = -1 ∧ uu = σ) ∨ (((0 ≤ a ∧ a < σ 1 0) ∧ (0 ≤ b ∧ b < σ 1 0) ∧ ¬ a = b ∧ (0 ≤ v ∧ v ≤ 19) ∧ (0 ≤ w ∧ w ≤ 19)) ∧ ¬ (0 ≤ ear ∧ ear ≤ 9) ∧ rv = -2 ∧ uu = σ) ∨ (((0 ≤ a ∧ a < σ 1 0) ∧ (0 ≤ b ∧ b < σ 1 0) ∧ ¬ a = b ∧ (0 ≤ v ∧ v ≤ 19) ∧ (0 ≤ w ∧ w ≤ 19)) ∧ (0 ≤ ear ∧ ear ≤ 9) ∧ σ 4 0 = 12 ∧ rv = -4 ∧ uu = σ) ∨ (((0 ≤ a ∧ a < σ 1 0) ∧ (0 ≤ b ∧ b < σ 1 0) ∧ ¬ a = b ∧ (0 ≤ v ∧ v ≤ 19) ∧ (0 ≤ w ∧ w ≤ 19)) ∧ (0 ≤ ear ∧ ear ≤ 9) ∧ ¬ σ 4 0 = 12 ∧ rv = σ 4 0 ∧ (∀ F, (F < 10 ∨ 14 < F) → F ≠ 19 → uu F = (up (up (up (up (up (up σ 5 (σ 4 0) a) 6 (σ 4 0) v) 7 (σ 4 0) b) 8 (σ 4 0) w) 9 (σ 4 0) ear) 4 0 (σ 4 0 + 1)) F) ∧ uu 19 0 = 0 ∧ JI uu ∧ WfC uu))) := by
  refine mk_I (cc := cX5_tie) (maxL := 7) (ret := some .int) (by decide) rfl (Nat.le_of_ble_eq_true rfl) ?_
  intro p e s m args below meth c A X hret
  have hin5 : ∀ x ∈ u_ws RX5 TX5 6, x ∈ wsX5_tie := fun _ h => List.mem_cons_of_mem _ (List.mem_append_left _ (List.mem_append_left _ (List.mem_append_left _ (List.mem_append_right _ h))))
  have hin3 : ∀ x ∈ u_ws RX3 TX3 9, x ∈ wsX5_tie := fun _ h => List.mem_cons_of_mem _ (List.mem_append_left _ (List.mem_append_left _ (List.mem_append_right _ h)))
  have hin1 : ∀ x ∈ u_ws RX1 TX1 5, x ∈ wsX5_tie := fun _ h => List.mem_cons_of_mem _ (List.mem_append_left _ (List.mem_append_right _ h))
  have hin0 : ∀ x ∈ u_ws RX0 TX0 9, x ∈ wsX5_tie := fun _ h => List.mem_cons_of_mem _ (List.mem_append_right _ h)
  refine z_lv (lv' := [(0, .ref (q 0)), (1, .int (jI a)), (2, .int (jI v)), (3, .int (jI b)), (4, .int (jI w)), (5, .int (jI ear))]) [0, 1, 2, 3, 4, 5] rfl ?_
  obtain ⟨n1, n0, n4, n16⟩ := hwf.n
  refine z_aload_n (pc' := 1) X dX5_tie_0 rfl 0 rfl rfl ?_
  refine z_iload_n (pc' := 2) X dX5_tie_1 rfl 1 rfl rfl ?_
  refine z_callVI (pc' := 5) (S := St) (As := [.int (jI a)]) (rest := []) X dX5_tie_2 rfl (kX5_isSection l D E q σ a  (hwf) (by omega)) (cwV 1 X.1.2.2.2.2 gX5_tie_X5_isSection rfl rfl rfl (by decide +kernel) ⟨Nat.le_of_ble_eq_true rfl, Nat.le_of_ble_eq_true rfl⟩) 0 rfl rfl rfl rfl (Nat.le_of_ble_eq_true rfl) (fun r2 u2 hp2 => ?_)
  obtain ⟨rfl, hp2⟩ := hp2
  rcases hp2 with ⟨rfl, hp2⟩ | ⟨rfl, hp2⟩
  · refine z_if_eq (tgt := 36) (pc' := 8) X dX5_tie_5 (by decide) rfl (by omega) (fun h => absurd h (by decide)) (fun _ => ?_)
    refine z_aload_n (pc' := 9) X dX5_tie_8 rfl 0 rfl rfl ?_
    refine z_iload_n (pc' := 10) X dX5_tie_9 rfl 3 rfl rfl ?_
    refine z_callVI (pc' := 13) (S := St) (As := [.int (jI b)]) (rest := []) X dX5_tie_10 rfl (kX5_isSection l D E q σ b  (hwf) (by omega)) (cwV 1 X.1.2.2.2.2 gX5_tie_X5_isSection rfl rfl rfl (by decide +kernel) ⟨Nat.le_of_ble_eq_true rfl, Nat.le_of_ble_eq_true rfl⟩) 0 rfl rfl rfl rfl (Nat.le_of_ble_eq_true rfl) (fun r10 u10 hp10 => ?_)
    obtain ⟨rfl, hp10⟩ := hp10
    rcases hp10 with ⟨rfl, hp10⟩ | ⟨rfl, hp10⟩
    · refine z_if_eq (tgt := 36) (pc' := 16) X dX5_tie_13 (by decide) rfl (by omega) (fun h => absurd h (by decide)) (fun _ => ?_)
      refine z_iload_n (pc' := 17) X dX5_tie_16 rfl 1 rfl rfl ?_
      refine z_iload_n (pc' := 18) X dX5_tie_17 rfl 3 rfl rfl ?_
      refine z_icmp_eq (tgt := 36) (pc' := 21) X dX5_tie_18 (by decide) rfl (by omega) (fun h18 => ?_) (fun h18 => ?_)
      · refine z_iconst (pc' := 37) X dX5_tie_36 rfl ?_
        exact z_iret (post := (fun (rv : Int) (uu : St) => ((¬ ((0 ≤ a ∧ a < σ 1 0) ∧ (0 ≤ b ∧ b < σ 1 0) ∧ ¬ a = b ∧ (0 ≤ v ∧ v ≤ 19) ∧ (0 ≤ w ∧ w ≤ 19)) ∧ rv = -1 ∧ uu = σ) ∨ (((0 ≤ a ∧ a < σ 1 0) ∧ (0 ≤ b ∧ b < σ 1 0) ∧ ¬ a = b ∧ (0 ≤ v ∧ v ≤ 19) ∧ (0 ≤ w ∧ w ≤ 19)) ∧ ¬ (0 ≤ ear ∧ ear ≤ 9) ∧ rv = -2 ∧ uu = σ) ∨ (((0 ≤ a ∧ a < σ 1 0) ∧ (0 ≤ b ∧ b < σ 1 0) ∧ ¬ a = b ∧ (0 ≤ v ∧ v ≤ 19) ∧ (0 ≤ w ∧ w ≤ 19)) ∧ (0 ≤ ear ∧ ear ≤ 9) ∧ σ 4 0 = 12 ∧ rv = -4 ∧ uu = σ) ∨ (((0 ≤ a ∧ a < σ 1 0) ∧ (0 ≤ b ∧ b < σ 1 0) ∧ ¬ a = b ∧ (0 ≤ v ∧ v ≤ 19) ∧ (0 ≤ w ∧ w ≤ 19)) ∧ (0 ≤ ear ∧ ear ≤ 9) ∧ ¬ σ 4 0 = 12 ∧ rv = σ 4 0 ∧ (∀ F, (F < 10 ∨ 14 < F) → F ≠ 19 → uu F = (up (up (up (up (up (up σ 5 (σ 4 0) a) 6 (σ 4 0) v) 7 (σ 4 0) b) 8 (σ 4 0) w) 9 (σ 4 0) ear) 4 0 (σ 4 0 + 1)) F) ∧ uu 19 0 = 0 ∧ JI uu ∧ WfC uu)))) X dX5_tie_37 hret σ (Or.inl ⟨by omega, rfl, rfl⟩)
      · refine z_iload_n (pc' := 22) X dX5_tie_21 rfl 2 rfl rfl ?_
        refine z_callPI (pc' := 25) (S := Unit) (As := [.int (jI v)]) (rest := []) X dX5_tie_22 rfl (kX5_isValue l D E v  (by omega)) (va_cwS 1 X.1.2.2.2.2 gX5_tie_X5_isValue rfl rfl rfl (by decide +kernel) ⟨Nat.le_of_ble_eq_true rfl, Nat.le_of_ble_eq_true rfl⟩) rfl rfl (Nat.le_of_ble_eq_true rfl) (fun r22 u22 hp22 => ?_)
        skip
        rcases hp22 with ⟨rfl, hp22⟩ | ⟨rfl, hp22⟩
        · refine z_if_eq (tgt := 36) (pc' := 28) X dX5_tie_25 (by decide) rfl (by omega) (fun h => absurd h (by decide)) (fun _ => ?_)
          refine z_iload (pc' := 30) X dX5_tie_28 rfl 4 rfl ?_
          refine z_callPI (pc' := 33) (S := Unit) (As := [.int (jI w)]) (rest := []) X dX5_tie_30 rfl (kX5_isValue l D E w  (by omega)) (va_cwS 1 X.1.2.2.2.2 gX5_tie_X5_isValue rfl rfl rfl (by decide +kernel) ⟨Nat.le_of_ble_eq_true rfl, Nat.le_of_ble_eq_true rfl⟩) rfl rfl (Nat.le_of_ble_eq_true rfl) (fun r30 u30 hp30 => ?_)
          skip
          rcases hp30 with ⟨rfl, hp30⟩ | ⟨rfl, hp30⟩
          · refine z_if_ne (tgt := 38) (pc' := 36) X dX5_tie_33 (by decide) rfl (by omega) (fun _ => ?_) (fun h => absurd h (by decide))
            refine z_iload (pc' := 40) X dX5_tie_38 rfl 5 rfl ?_
            refine z_callPI (pc' := 43) (S := Unit) (As := [.int (jI ear)]) (rest := []) X dX5_tie_40 rfl (kX5_isEar l D E ear  (by omega)) (va_cwS 1 X.1.2.2.2.2 gX5_tie_X5_isEar rfl rfl rfl (by decide +kernel) ⟨Nat.le_of_ble_eq_true rfl, Nat.le_of_ble_eq_true rfl⟩) rfl rfl (Nat.le_of_ble_eq_true rfl) (fun r40 u40 hp40 => ?_)
            skip
            rcases hp40 with ⟨rfl, hp40⟩ | ⟨rfl, hp40⟩
            · refine z_if_ne (tgt := 49) (pc' := 46) X dX5_tie_43 (by decide) rfl (by omega) (fun _ => ?_) (fun h => absurd h (by decide))
              refine z_aload_n (pc' := 50) X dX5_tie_49 rfl 0 rfl rfl ?_
              refine z_get (pc' := 53) (C := RX5) (ref := "PivotBeats") (T := TX5) (N := 6) (v := .ref (q 36)) X dX5_tie_50 rfl hin5 0 rfl rfl 0 (by decide) (by decide +kernel) rfl rfl ?_
              refine z_get (pc' := 56) (C := RX3) (ref := "PivotBeats$Piece") (T := TX3) (N := 9) (v := .int (jI (σ 4 0))) X dX5_tie_53 rfl hin3 1 rfl rfl 3 (by decide) (by decide +kernel) rfl rfl ?_
              refine z_bipush (pc' := 58) X dX5_tie_56 rfl rfl ?_
              refine z_icmp_lt (tgt := 64) (pc' := 61) X dX5_tie_58 (by decide) rfl (by omega) (fun h58 => ?_) (fun h58 => ?_)
              · refine z_aload_n (pc' := 65) X dX5_tie_64 rfl 0 rfl rfl ?_
                refine z_get (pc' := 68) (C := RX5) (ref := "PivotBeats") (T := TX5) (N := 6) (v := .ref (q 36)) X dX5_tie_65 rfl hin5 0 rfl rfl 0 (by decide) (by decide +kernel) rfl rfl ?_
                refine z_iload_n (pc' := 69) X dX5_tie_68 rfl 1 rfl rfl ?_
                refine z_iload_n (pc' := 70) X dX5_tie_69 rfl 2 rfl rfl ?_
                refine z_iload_n (pc' := 71) X dX5_tie_70 rfl 3 rfl rfl ?_
                refine z_iload (pc' := 73) X dX5_tie_71 rfl 4 rfl ?_
                refine z_iload (pc' := 75) X dX5_tie_73 rfl 5 rfl ?_
                refine z_callVI (pc' := 78) (S := St) (As := [.int (jI a), .int (jI v), .int (jI b), .int (jI w), .int (jI ear)]) (rest := []) X dX5_tie_75 rfl (kX3_addTie l D E q σ a v b w ear  (hwf) (by omega)) (cwV 5 X.1.2.2.2.2 gX5_tie_X3_addTie rfl rfl rfl (by decide +kernel) ⟨Nat.le_of_ble_eq_true rfl, Nat.le_of_ble_eq_true rfl⟩) 1 rfl rfl rfl rfl (Nat.le_of_ble_eq_true rfl) (fun r75 u75 hp75 => ?_)
                obtain ⟨er75, eu75⟩ := hp75
                have w75 : WfC u75 := by rw [eu75]; exact wf_tie hwf (by omega) hp2 hp10 h18 hp22 hp30 hp40
                refine z_istore (pc' := 80) (lv' := [(6, .int (jI r75)), (0, .ref (q 0)), (1, .int (jI a)), (2, .int (jI v)), (3, .int (jI b)), (4, .int (jI w)), (5, .int (jI ear))]) X dX5_tie_78 rfl (by decide) rfl ?_
                refine z_aload_n (pc' := 81) X dX5_tie_80 rfl 1 rfl rfl ?_
                refine z_callVV (pc' := 84) (S := St) (As := []) (rest := []) X dX5_tie_81 rfl (kX5_tiesChanged l D E q u75   (w75)) (cwV 0 X.1.2.2.2.2 gX5_tie_X5_tiesChanged rfl rfl rfl (by decide +kernel) ⟨Nat.le_of_ble_eq_true rfl, Nat.le_of_ble_eq_true rfl⟩) 0 rfl rfl rfl rfl (Nat.le_of_ble_eq_true rfl) (fun u81 hp81 => ?_)
                obtain ⟨hn81, hz81, hj81⟩ := hp81
                refine z_iload (pc' := 86) X dX5_tie_84 rfl 0 rfl ?_
                exact z_iret (post := (fun (rv : Int) (uu : St) => ((¬ ((0 ≤ a ∧ a < σ 1 0) ∧ (0 ≤ b ∧ b < σ 1 0) ∧ ¬ a = b ∧ (0 ≤ v ∧ v ≤ 19) ∧ (0 ≤ w ∧ w ≤ 19)) ∧ rv = -1 ∧ uu = σ) ∨ (((0 ≤ a ∧ a < σ 1 0) ∧ (0 ≤ b ∧ b < σ 1 0) ∧ ¬ a = b ∧ (0 ≤ v ∧ v ≤ 19) ∧ (0 ≤ w ∧ w ≤ 19)) ∧ ¬ (0 ≤ ear ∧ ear ≤ 9) ∧ rv = -2 ∧ uu = σ) ∨ (((0 ≤ a ∧ a < σ 1 0) ∧ (0 ≤ b ∧ b < σ 1 0) ∧ ¬ a = b ∧ (0 ≤ v ∧ v ≤ 19) ∧ (0 ≤ w ∧ w ≤ 19)) ∧ (0 ≤ ear ∧ ear ≤ 9) ∧ σ 4 0 = 12 ∧ rv = -4 ∧ uu = σ) ∨ (((0 ≤ a ∧ a < σ 1 0) ∧ (0 ≤ b ∧ b < σ 1 0) ∧ ¬ a = b ∧ (0 ≤ v ∧ v ≤ 19) ∧ (0 ≤ w ∧ w ≤ 19)) ∧ (0 ≤ ear ∧ ear ≤ 9) ∧ ¬ σ 4 0 = 12 ∧ rv = σ 4 0 ∧ (∀ F, (F < 10 ∨ 14 < F) → F ≠ 19 → uu F = (up (up (up (up (up (up σ 5 (σ 4 0) a) 6 (σ 4 0) v) 7 (σ 4 0) b) 8 (σ 4 0) w) 9 (σ 4 0) ear) 4 0 (σ 4 0 + 1)) F) ∧ uu 19 0 = 0 ∧ JI uu ∧ WfC uu)))) X dX5_tie_86 hret u81 (Or.inr (Or.inr (Or.inr ⟨by omega, by omega, by omega, er75, by rw [← eu75]; exact hn81, hz81, hj81, eqC.wf (fun F hF => hn81 F (by omega) (by omega)) w75⟩)))
              · refine z_bipush (pc' := 63) X dX5_tie_61 rfl rfl ?_
                exact z_iret (post := (fun (rv : Int) (uu : St) => ((¬ ((0 ≤ a ∧ a < σ 1 0) ∧ (0 ≤ b ∧ b < σ 1 0) ∧ ¬ a = b ∧ (0 ≤ v ∧ v ≤ 19) ∧ (0 ≤ w ∧ w ≤ 19)) ∧ rv = -1 ∧ uu = σ) ∨ (((0 ≤ a ∧ a < σ 1 0) ∧ (0 ≤ b ∧ b < σ 1 0) ∧ ¬ a = b ∧ (0 ≤ v ∧ v ≤ 19) ∧ (0 ≤ w ∧ w ≤ 19)) ∧ ¬ (0 ≤ ear ∧ ear ≤ 9) ∧ rv = -2 ∧ uu = σ) ∨ (((0 ≤ a ∧ a < σ 1 0) ∧ (0 ≤ b ∧ b < σ 1 0) ∧ ¬ a = b ∧ (0 ≤ v ∧ v ≤ 19) ∧ (0 ≤ w ∧ w ≤ 19)) ∧ (0 ≤ ear ∧ ear ≤ 9) ∧ σ 4 0 = 12 ∧ rv = -4 ∧ uu = σ) ∨ (((0 ≤ a ∧ a < σ 1 0) ∧ (0 ≤ b ∧ b < σ 1 0) ∧ ¬ a = b ∧ (0 ≤ v ∧ v ≤ 19) ∧ (0 ≤ w ∧ w ≤ 19)) ∧ (0 ≤ ear ∧ ear ≤ 9) ∧ ¬ σ 4 0 = 12 ∧ rv = σ 4 0 ∧ (∀ F, (F < 10 ∨ 14 < F) → F ≠ 19 → uu F = (up (up (up (up (up (up σ 5 (σ 4 0) a) 6 (σ 4 0) v) 7 (σ 4 0) b) 8 (σ 4 0) w) 9 (σ 4 0) ear) 4 0 (σ 4 0 + 1)) F) ∧ uu 19 0 = 0 ∧ JI uu ∧ WfC uu)))) X dX5_tie_63 hret σ (Or.inr (Or.inr (Or.inl ⟨by omega, by omega, by omega, rfl, rfl⟩)))
            · refine z_if_ne (tgt := 49) (pc' := 46) X dX5_tie_43 (by decide) rfl (by omega) (fun h => absurd h (by decide)) (fun _ => ?_)
              refine z_bipush (pc' := 48) X dX5_tie_46 rfl rfl ?_
              exact z_iret (post := (fun (rv : Int) (uu : St) => ((¬ ((0 ≤ a ∧ a < σ 1 0) ∧ (0 ≤ b ∧ b < σ 1 0) ∧ ¬ a = b ∧ (0 ≤ v ∧ v ≤ 19) ∧ (0 ≤ w ∧ w ≤ 19)) ∧ rv = -1 ∧ uu = σ) ∨ (((0 ≤ a ∧ a < σ 1 0) ∧ (0 ≤ b ∧ b < σ 1 0) ∧ ¬ a = b ∧ (0 ≤ v ∧ v ≤ 19) ∧ (0 ≤ w ∧ w ≤ 19)) ∧ ¬ (0 ≤ ear ∧ ear ≤ 9) ∧ rv = -2 ∧ uu = σ) ∨ (((0 ≤ a ∧ a < σ 1 0) ∧ (0 ≤ b ∧ b < σ 1 0) ∧ ¬ a = b ∧ (0 ≤ v ∧ v ≤ 19) ∧ (0 ≤ w ∧ w ≤ 19)) ∧ (0 ≤ ear ∧ ear ≤ 9) ∧ σ 4 0 = 12 ∧ rv = -4 ∧ uu = σ) ∨ (((0 ≤ a ∧ a < σ 1 0) ∧ (0 ≤ b ∧ b < σ 1 0) ∧ ¬ a = b ∧ (0 ≤ v ∧ v ≤ 19) ∧ (0 ≤ w ∧ w ≤ 19)) ∧ (0 ≤ ear ∧ ear ≤ 9) ∧ ¬ σ 4 0 = 12 ∧ rv = σ 4 0 ∧ (∀ F, (F < 10 ∨ 14 < F) → F ≠ 19 → uu F = (up (up (up (up (up (up σ 5 (σ 4 0) a) 6 (σ 4 0) v) 7 (σ 4 0) b) 8 (σ 4 0) w) 9 (σ 4 0) ear) 4 0 (σ 4 0 + 1)) F) ∧ uu 19 0 = 0 ∧ JI uu ∧ WfC uu)))) X dX5_tie_48 hret σ (Or.inr (Or.inl ⟨by omega, by omega, rfl, rfl⟩))
          · refine z_if_ne (tgt := 38) (pc' := 36) X dX5_tie_33 (by decide) rfl (by omega) (fun h => absurd h (by decide)) (fun _ => ?_)
            refine z_iconst (pc' := 37) X dX5_tie_36 rfl ?_
            exact z_iret (post := (fun (rv : Int) (uu : St) => ((¬ ((0 ≤ a ∧ a < σ 1 0) ∧ (0 ≤ b ∧ b < σ 1 0) ∧ ¬ a = b ∧ (0 ≤ v ∧ v ≤ 19) ∧ (0 ≤ w ∧ w ≤ 19)) ∧ rv = -1 ∧ uu = σ) ∨ (((0 ≤ a ∧ a < σ 1 0) ∧ (0 ≤ b ∧ b < σ 1 0) ∧ ¬ a = b ∧ (0 ≤ v ∧ v ≤ 19) ∧ (0 ≤ w ∧ w ≤ 19)) ∧ ¬ (0 ≤ ear ∧ ear ≤ 9) ∧ rv = -2 ∧ uu = σ) ∨ (((0 ≤ a ∧ a < σ 1 0) ∧ (0 ≤ b ∧ b < σ 1 0) ∧ ¬ a = b ∧ (0 ≤ v ∧ v ≤ 19) ∧ (0 ≤ w ∧ w ≤ 19)) ∧ (0 ≤ ear ∧ ear ≤ 9) ∧ σ 4 0 = 12 ∧ rv = -4 ∧ uu = σ) ∨ (((0 ≤ a ∧ a < σ 1 0) ∧ (0 ≤ b ∧ b < σ 1 0) ∧ ¬ a = b ∧ (0 ≤ v ∧ v ≤ 19) ∧ (0 ≤ w ∧ w ≤ 19)) ∧ (0 ≤ ear ∧ ear ≤ 9) ∧ ¬ σ 4 0 = 12 ∧ rv = σ 4 0 ∧ (∀ F, (F < 10 ∨ 14 < F) → F ≠ 19 → uu F = (up (up (up (up (up (up σ 5 (σ 4 0) a) 6 (σ 4 0) v) 7 (σ 4 0) b) 8 (σ 4 0) w) 9 (σ 4 0) ear) 4 0 (σ 4 0 + 1)) F) ∧ uu 19 0 = 0 ∧ JI uu ∧ WfC uu)))) X dX5_tie_37 hret σ (Or.inl ⟨by omega, rfl, rfl⟩)
        · refine z_if_eq (tgt := 36) (pc' := 28) X dX5_tie_25 (by decide) rfl (by omega) (fun _ => ?_) (fun h => absurd h (by decide))
          refine z_iconst (pc' := 37) X dX5_tie_36 rfl ?_
          exact z_iret (post := (fun (rv : Int) (uu : St) => ((¬ ((0 ≤ a ∧ a < σ 1 0) ∧ (0 ≤ b ∧ b < σ 1 0) ∧ ¬ a = b ∧ (0 ≤ v ∧ v ≤ 19) ∧ (0 ≤ w ∧ w ≤ 19)) ∧ rv = -1 ∧ uu = σ) ∨ (((0 ≤ a ∧ a < σ 1 0) ∧ (0 ≤ b ∧ b < σ 1 0) ∧ ¬ a = b ∧ (0 ≤ v ∧ v ≤ 19) ∧ (0 ≤ w ∧ w ≤ 19)) ∧ ¬ (0 ≤ ear ∧ ear ≤ 9) ∧ rv = -2 ∧ uu = σ) ∨ (((0 ≤ a ∧ a < σ 1 0) ∧ (0 ≤ b ∧ b < σ 1 0) ∧ ¬ a = b ∧ (0 ≤ v ∧ v ≤ 19) ∧ (0 ≤ w ∧ w ≤ 19)) ∧ (0 ≤ ear ∧ ear ≤ 9) ∧ σ 4 0 = 12 ∧ rv = -4 ∧ uu = σ) ∨ (((0 ≤ a ∧ a < σ 1 0) ∧ (0 ≤ b ∧ b < σ 1 0) ∧ ¬ a = b ∧ (0 ≤ v ∧ v ≤ 19) ∧ (0 ≤ w ∧ w ≤ 19)) ∧ (0 ≤ ear ∧ ear ≤ 9) ∧ ¬ σ 4 0 = 12 ∧ rv = σ 4 0 ∧ (∀ F, (F < 10 ∨ 14 < F) → F ≠ 19 → uu F = (up (up (up (up (up (up σ 5 (σ 4 0) a) 6 (σ 4 0) v) 7 (σ 4 0) b) 8 (σ 4 0) w) 9 (σ 4 0) ear) 4 0 (σ 4 0 + 1)) F) ∧ uu 19 0 = 0 ∧ JI uu ∧ WfC uu)))) X dX5_tie_37 hret σ (Or.inl ⟨by omega, rfl, rfl⟩)
    · refine z_if_eq (tgt := 36) (pc' := 16) X dX5_tie_13 (by decide) rfl (by omega) (fun _ => ?_) (fun h => absurd h (by decide))
      refine z_iconst (pc' := 37) X dX5_tie_36 rfl ?_
      exact z_iret (post := (fun (rv : Int) (uu : St) => ((¬ ((0 ≤ a ∧ a < σ 1 0) ∧ (0 ≤ b ∧ b < σ 1 0) ∧ ¬ a = b ∧ (0 ≤ v ∧ v ≤ 19) ∧ (0 ≤ w ∧ w ≤ 19)) ∧ rv = -1 ∧ uu = σ) ∨ (((0 ≤ a ∧ a < σ 1 0) ∧ (0 ≤ b ∧ b < σ 1 0) ∧ ¬ a = b ∧ (0 ≤ v ∧ v ≤ 19) ∧ (0 ≤ w ∧ w ≤ 19)) ∧ ¬ (0 ≤ ear ∧ ear ≤ 9) ∧ rv = -2 ∧ uu = σ) ∨ (((0 ≤ a ∧ a < σ 1 0) ∧ (0 ≤ b ∧ b < σ 1 0) ∧ ¬ a = b ∧ (0 ≤ v ∧ v ≤ 19) ∧ (0 ≤ w ∧ w ≤ 19)) ∧ (0 ≤ ear ∧ ear ≤ 9) ∧ σ 4 0 = 12 ∧ rv = -4 ∧ uu = σ) ∨ (((0 ≤ a ∧ a < σ 1 0) ∧ (0 ≤ b ∧ b < σ 1 0) ∧ ¬ a = b ∧ (0 ≤ v ∧ v ≤ 19) ∧ (0 ≤ w ∧ w ≤ 19)) ∧ (0 ≤ ear ∧ ear ≤ 9) ∧ ¬ σ 4 0 = 12 ∧ rv = σ 4 0 ∧ (∀ F, (F < 10 ∨ 14 < F) → F ≠ 19 → uu F = (up (up (up (up (up (up σ 5 (σ 4 0) a) 6 (σ 4 0) v) 7 (σ 4 0) b) 8 (σ 4 0) w) 9 (σ 4 0) ear) 4 0 (σ 4 0 + 1)) F) ∧ uu 19 0 = 0 ∧ JI uu ∧ WfC uu)))) X dX5_tie_37 hret σ (Or.inl ⟨by omega, rfl, rfl⟩)
  · refine z_if_eq (tgt := 36) (pc' := 8) X dX5_tie_5 (by decide) rfl (by omega) (fun _ => ?_) (fun h => absurd h (by decide))
    refine z_iconst (pc' := 37) X dX5_tie_36 rfl ?_
    exact z_iret (post := (fun (rv : Int) (uu : St) => ((¬ ((0 ≤ a ∧ a < σ 1 0) ∧ (0 ≤ b ∧ b < σ 1 0) ∧ ¬ a = b ∧ (0 ≤ v ∧ v ≤ 19) ∧ (0 ≤ w ∧ w ≤ 19)) ∧ rv = -1 ∧ uu = σ) ∨ (((0 ≤ a ∧ a < σ 1 0) ∧ (0 ≤ b ∧ b < σ 1 0) ∧ ¬ a = b ∧ (0 ≤ v ∧ v ≤ 19) ∧ (0 ≤ w ∧ w ≤ 19)) ∧ ¬ (0 ≤ ear ∧ ear ≤ 9) ∧ rv = -2 ∧ uu = σ) ∨ (((0 ≤ a ∧ a < σ 1 0) ∧ (0 ≤ b ∧ b < σ 1 0) ∧ ¬ a = b ∧ (0 ≤ v ∧ v ≤ 19) ∧ (0 ≤ w ∧ w ≤ 19)) ∧ (0 ≤ ear ∧ ear ≤ 9) ∧ σ 4 0 = 12 ∧ rv = -4 ∧ uu = σ) ∨ (((0 ≤ a ∧ a < σ 1 0) ∧ (0 ≤ b ∧ b < σ 1 0) ∧ ¬ a = b ∧ (0 ≤ v ∧ v ≤ 19) ∧ (0 ≤ w ∧ w ≤ 19)) ∧ (0 ≤ ear ∧ ear ≤ 9) ∧ ¬ σ 4 0 = 12 ∧ rv = σ 4 0 ∧ (∀ F, (F < 10 ∨ 14 < F) → F ≠ 19 → uu F = (up (up (up (up (up (up σ 5 (σ 4 0) a) 6 (σ 4 0) v) 7 (σ 4 0) b) 8 (σ 4 0) w) 9 (σ 4 0) ear) 4 0 (σ 4 0 + 1)) F) ∧ uu 19 0 = 0 ∧ JI uu ∧ WfC uu)))) X dX5_tie_37 hret σ (Or.inl ⟨by omega, rfl, rfl⟩)
set_option maxHeartbeats 4000000 in
set_option maxRecDepth 100000 in
theorem kX5_ear (l : Launch) (D : va_G) (E : Nat → Nat) (q : Nat → Nat) (σ : St) (k v : Int) (hwf : WfC σ) (hr : (-2147483648 ≤ k ∧ k < 2147483648) ∧ (-2147483648 ≤ v ∧ v < 2147483648)) : CtI l D E yX5_ear wsX5_ear ({ frames := 1, cells := 0, slots := 0, locals := 21 } : Room) [.ref (q 0), .int (jI k), .int (jI v)] (CW E q σ) (CW E q) (fun (rv : Int) (uu : St) => ((¬ (0 ≤ k ∧ k < σ 4 0) ∧ rv = -1 ∧ uu = σ) ∨ ((0 ≤ k ∧ k < σ 4 0) ∧ ¬ (0 ≤ v ∧ v ≤ 9) ∧ rv = -2 ∧ uu = σ) ∨ ((0 ≤ k ∧ k < σ 4 0) ∧ (0 ≤ v ∧ v ≤ 9) ∧ rv = σ 9 k ∧ uu = up (up σ 9 k v) 19 0 0))) := by
  refine mk_I (cc := cX5_ear) (maxL := 4) (ret := some .int) (by decide) rfl (Nat.le_of_ble_eq_true rfl) ?_
  intro p e s m args below meth c A X hret
  have hin5 : ∀ x ∈ u_ws RX5 TX5 6, x ∈ wsX5_ear := fun _ h => List.mem_cons_of_mem _ (List.mem_append_left _ (List.mem_append_left _ (List.mem_append_right _ h)))
  have hin3 : ∀ x ∈ u_ws RX3 TX3 9, x ∈ wsX5_ear := fun _ h => List.mem_cons_of_mem _ (List.mem_append_left _ (List.mem_append_right _ h))
  have hin0 : ∀ x ∈ u_ws RX0 TX0 9, x ∈ wsX5_ear := fun _ h => List.mem_cons_of_mem _ (List.mem_append_right _ h)
  refine z_lv (lv' := [(0, .ref (q 0)), (1, .int (jI k)), (2, .int (jI v))]) [0, 1, 2] rfl ?_
  obtain ⟨n1, n0, n4, n16⟩ := hwf.n
  refine z_aload_n (pc' := 1) X dX5_ear_0 rfl 0 rfl rfl ?_
  refine z_iload_n (pc' := 2) X dX5_ear_1 rfl 1 rfl rfl ?_
  refine z_callVI (pc' := 5) (S := St) (As := [.int (jI k)]) (rest := []) X dX5_ear_2 rfl (kX5_isTie l D E q σ k  (hwf) (by omega)) (cwV 1 X.1.2.2.2.2 gX5_ear_X5_isTie rfl rfl rfl (by decide +kernel) ⟨Nat.le_of_ble_eq_true rfl, Nat.le_of_ble_eq_true rfl⟩) 0 rfl rfl rfl rfl (Nat.le_of_ble_eq_true rfl) (fun r2 u2 hp2 => ?_)
  obtain ⟨rfl, hp2⟩ := hp2
  rcases hp2 with ⟨rfl, hp2⟩ | ⟨rfl, hp2⟩
  · refine z_if_ne (tgt := 10) (pc' := 8) X dX5_ear_5 (by decide) rfl (by omega) (fun _ => ?_) (fun h => absurd h (by decide))
    refine z_iload_n (pc' := 11) X dX5_ear_10 rfl 2 rfl rfl ?_
    refine z_callPI (pc' := 14) (S := Unit) (As := [.int (jI v)]) (rest := []) X dX5_ear_11 rfl (kX5_isEar l D E v  (by omega)) (va_cwS 1 X.1.2.2.2.2 gX5_ear_X5_isEar rfl rfl rfl (by decide +kernel) ⟨Nat.le_of_ble_eq_true rfl, Nat.le_of_ble_eq_true rfl⟩) rfl rfl (Nat.le_of_ble_eq_true rfl) (fun r11 u11 hp11 => ?_)
    skip
    rcases hp11 with ⟨rfl, hp11⟩ | ⟨rfl, hp11⟩
    · refine z_if_ne (tgt := 20) (pc' := 17) X dX5_ear_14 (by decide) rfl (by omega) (fun _ => ?_) (fun h => absurd h (by decide))
      refine z_aload_n (pc' := 21) X dX5_ear_20 rfl 0 rfl rfl ?_
      refine z_get (pc' := 24) (C := RX5) (ref := "PivotBeats") (T := TX5) (N := 6) (v := .ref (q 36)) X dX5_ear_21 rfl hin5 0 rfl rfl 0 (by decide) (by decide +kernel) rfl rfl ?_
      refine z_get (pc' := 27) (C := RX3) (ref := "PivotBeats$Piece") (T := TX3) (N := 9) (v := .ref (q 9)) X dX5_ear_24 rfl hin3 1 rfl rfl 8 (by decide) (by decide +kernel) rfl rfl ?_
      refine z_iload_n (pc' := 28) X dX5_ear_27 rfl 1 rfl rfl ?_
      refine z_iald (pc' := 29) (f := σ 9) (n := 12) X dX5_ear_28 rfl 12 rfl (by decide) (by omega) ?_
      refine z_istore_n (pc' := 30) (lv' := [(3, .int (jI (σ 9 k))), (0, .ref (q 0)), (1, .int (jI k)), (2, .int (jI v))]) X dX5_ear_29 rfl rfl (by decide) rfl ?_
      refine z_aload_n (pc' := 31) X dX5_ear_30 rfl 1 rfl rfl ?_
      refine z_get (pc' := 34) (C := RX5) (ref := "PivotBeats") (T := TX5) (N := 6) (v := .ref (q 36)) X dX5_ear_31 rfl hin5 0 rfl rfl 0 (by decide) (by decide +kernel) rfl rfl ?_
      refine z_get (pc' := 37) (C := RX3) (ref := "PivotBeats$Piece") (T := TX3) (N := 9) (v := .ref (q 9)) X dX5_ear_34 rfl hin3 1 rfl rfl 8 (by decide) (by decide +kernel) rfl rfl ?_
      refine z_iload_n (pc' := 38) X dX5_ear_37 rfl 2 rfl rfl ?_
      refine z_iload_n (pc' := 39) X dX5_ear_38 rfl 3 rfl rfl ?_
      refine z_iast (pc' := 40) (f := σ 9) (n := 12) (w' := CW E q (up σ 9 k v)) X dX5_ear_39 rfl 12 rfl (by decide) (by omega) rfl ?_
      refine z_aload_n (pc' := 41) X dX5_ear_40 rfl 1 rfl rfl ?_
      refine z_get (pc' := 44) (C := RX5) (ref := "PivotBeats") (T := TX5) (N := 6) (v := .ref (q 39)) X dX5_ear_41 rfl hin5 0 rfl rfl 3 (by decide) (by decide +kernel) rfl rfl ?_
      refine z_callVV (pc' := 47) (S := St) (As := []) (rest := []) X dX5_ear_44 rfl (kX0_forget l D E q (up σ 9 k v)   ) (cwV 0 X.1.2.2.2.2 gX5_ear_X0_forget rfl rfl rfl (by decide +kernel) ⟨Nat.le_of_ble_eq_true rfl, Nat.le_of_ble_eq_true rfl⟩) 4 rfl rfl rfl rfl (Nat.le_of_ble_eq_true rfl) (fun u44 hp44 => ?_)
      refine z_iload_n (pc' := 48) X dX5_ear_47 rfl 0 rfl rfl ?_
      exact z_iret (post := (fun (rv : Int) (uu : St) => ((¬ (0 ≤ k ∧ k < σ 4 0) ∧ rv = -1 ∧ uu = σ) ∨ ((0 ≤ k ∧ k < σ 4 0) ∧ ¬ (0 ≤ v ∧ v ≤ 9) ∧ rv = -2 ∧ uu = σ) ∨ ((0 ≤ k ∧ k < σ 4 0) ∧ (0 ≤ v ∧ v ≤ 9) ∧ rv = σ 9 k ∧ uu = up (up σ 9 k v) 19 0 0)))) X dX5_ear_48 hret u44 (by first | exact Or.inl ⟨by omega, rfl, rfl⟩ | exact Or.inr (Or.inl ⟨by omega, by omega, rfl, rfl⟩) | exact Or.inr (Or.inr ⟨by omega, by omega, rfl, hp44⟩))
    · refine z_if_ne (tgt := 20) (pc' := 17) X dX5_ear_14 (by decide) rfl (by omega) (fun h => absurd h (by decide)) (fun _ => ?_)
      refine z_bipush (pc' := 19) X dX5_ear_17 rfl rfl ?_
      exact z_iret (post := (fun (rv : Int) (uu : St) => ((¬ (0 ≤ k ∧ k < σ 4 0) ∧ rv = -1 ∧ uu = σ) ∨ ((0 ≤ k ∧ k < σ 4 0) ∧ ¬ (0 ≤ v ∧ v ≤ 9) ∧ rv = -2 ∧ uu = σ) ∨ ((0 ≤ k ∧ k < σ 4 0) ∧ (0 ≤ v ∧ v ≤ 9) ∧ rv = σ 9 k ∧ uu = up (up σ 9 k v) 19 0 0)))) X dX5_ear_19 hret σ (by first | exact Or.inl ⟨by omega, rfl, rfl⟩ | exact Or.inr (Or.inl ⟨by omega, by omega, rfl, rfl⟩) | exact Or.inr (Or.inr ⟨by omega, by omega, rfl, hp44⟩))
  · refine z_if_ne (tgt := 10) (pc' := 8) X dX5_ear_5 (by decide) rfl (by omega) (fun h => absurd h (by decide)) (fun _ => ?_)
    refine z_iconst (pc' := 9) X dX5_ear_8 rfl ?_
    exact z_iret (post := (fun (rv : Int) (uu : St) => ((¬ (0 ≤ k ∧ k < σ 4 0) ∧ rv = -1 ∧ uu = σ) ∨ ((0 ≤ k ∧ k < σ 4 0) ∧ ¬ (0 ≤ v ∧ v ≤ 9) ∧ rv = -2 ∧ uu = σ) ∨ ((0 ≤ k ∧ k < σ 4 0) ∧ (0 ≤ v ∧ v ≤ 9) ∧ rv = σ 9 k ∧ uu = up (up σ 9 k v) 19 0 0)))) X dX5_ear_9 hret σ (by first | exact Or.inl ⟨by omega, rfl, rfl⟩ | exact Or.inr (Or.inl ⟨by omega, by omega, rfl, rfl⟩) | exact Or.inr (Or.inr ⟨by omega, by omega, rfl, hp44⟩))
set_option maxHeartbeats 4000000 in
set_option maxRecDepth 100000 in
theorem kX5_untie (l : Launch) (D : va_G) (E : Nat → Nat) (q : Nat → Nat) (σ : St) (k : Int) (hwf : WfC σ) (hr : (-2147483648 ≤ k ∧ k < 2147483648)) : CtI l D E yX5_untie wsX5_untie ({ frames := 5, cells := 0, slots := 0, locals := 138 } : Room) [.ref (q 0), .int (jI k)] (CW E q σ) (CW E q) (fun (rv : Int) (uu : St) => ((¬ (0 ≤ k ∧ k < σ 4 0) ∧ rv = -1 ∧ uu = σ) ∨ ((0 ≤ k ∧ k < σ 4 0) ∧ rv = σ 4 0 - 1 ∧ ∃ u1 : St, ((∀ F, (F < 4 ∨ 9 < F) → u1 F = σ F) ∧ u1 4 0 = σ 4 0 - 1 ∧ (∀ y, u1 5 y = (if k ≤ y ∧ y < σ 4 0 - 1 then σ 5 (y + 1) else σ 5 y)) ∧ (∀ y, u1 6 y = (if k ≤ y ∧ y < σ 4 0 - 1 then σ 6 (y + 1) else σ 6 y)) ∧ (∀ y, u1 7 y = (if k ≤ y ∧ y < σ 4 0 - 1 then σ 7 (y + 1) else σ 7 y)) ∧ (∀ y, u1 8 y = (if k ≤ y ∧ y < σ 4 0 - 1 then σ 8 (y + 1) else σ 8 y)) ∧ (∀ y, u1 9 y = (if k ≤ y ∧ y < σ 4 0 - 1 then σ 9 (y + 1) else σ 9 y))) ∧ (∀ F, (F < 10 ∨ 14 < F) → F ≠ 19 → uu F = (u1) F) ∧ uu 19 0 = 0 ∧ JI uu ∧ WfC uu))) := by
  refine mk_I (cc := cX5_untie) (maxL := 2) (ret := some .int) (by decide) rfl (Nat.le_of_ble_eq_true rfl) ?_
  intro p e s m args below meth c A X hret
  have hin5 : ∀ x ∈ u_ws RX5 TX5 6, x ∈ wsX5_untie := fun _ h => List.mem_cons_of_mem _ (List.mem_append_left _ (List.mem_append_left _ (List.mem_append_left _ (List.mem_append_right _ h))))
  have hin3 : ∀ x ∈ u_ws RX3 TX3 9, x ∈ wsX5_untie := fun _ h => List.mem_cons_of_mem _ (List.mem_append_left _ (List.mem_append_left _ (List.mem_append_right _ h)))
  have hin1 : ∀ x ∈ u_ws RX1 TX1 5, x ∈ wsX5_untie := fun _ h => List.mem_cons_of_mem _ (List.mem_append_left _ (List.mem_append_right _ h))
  have hin0 : ∀ x ∈ u_ws RX0 TX0 9, x ∈ wsX5_untie := fun _ h => List.mem_cons_of_mem _ (List.mem_append_right _ h)
  refine z_lv (lv' := [(0, .ref (q 0)), (1, .int (jI k))]) [0, 1] rfl ?_
  obtain ⟨n1, n0, n4, n16⟩ := hwf.n
  refine z_aload_n (pc' := 1) X dX5_untie_0 rfl 0 rfl rfl ?_
  refine z_iload_n (pc' := 2) X dX5_untie_1 rfl 1 rfl rfl ?_
  refine z_callVI (pc' := 5) (S := St) (As := [.int (jI k)]) (rest := []) X dX5_untie_2 rfl (kX5_isTie l D E q σ k  (hwf) (by omega)) (cwV 1 X.1.2.2.2.2 gX5_untie_X5_isTie rfl rfl rfl (by decide +kernel) ⟨Nat.le_of_ble_eq_true rfl, Nat.le_of_ble_eq_true rfl⟩) 0 rfl rfl rfl rfl (Nat.le_of_ble_eq_true rfl) (fun r2 u2 hp2 => ?_)
  obtain ⟨rfl, hp2⟩ := hp2
  rcases hp2 with ⟨rfl, hp2⟩ | ⟨rfl, hp2⟩
  · refine z_if_ne (tgt := 10) (pc' := 8) X dX5_untie_5 (by decide) rfl (by omega) (fun _ => ?_) (fun h => absurd h (by decide))
    refine z_aload_n (pc' := 11) X dX5_untie_10 rfl 0 rfl rfl ?_
    refine z_get (pc' := 14) (C := RX5) (ref := "PivotBeats") (T := TX5) (N := 6) (v := .ref (q 36)) X dX5_untie_11 rfl hin5 0 rfl rfl 0 (by decide) (by decide +kernel) rfl rfl ?_
    refine z_iload_n (pc' := 15) X dX5_untie_14 rfl 1 rfl rfl ?_
    refine z_callVV (pc' := 18) (S := St) (As := [.int (jI k)]) (rest := []) X dX5_untie_15 rfl (kX3_removeTie l D E q σ k  (hwf) (by omega)) (cwV 1 X.1.2.2.2.2 gX5_untie_X3_removeTie rfl rfl rfl (by decide +kernel) ⟨Nat.le_of_ble_eq_true rfl, Nat.le_of_ble_eq_true rfl⟩) 1 rfl rfl rfl rfl (Nat.le_of_ble_eq_true rfl) (fun u15 hp15 => ?_)
    obtain ⟨hn15, h415, h515, h615, h715, h815, h915⟩ := hp15
    have w15 : WfC u15 := wf_unt hwf hp2 hn15 h415 h515 h615 h715 h815 h915
    refine z_aload_n (pc' := 19) X dX5_untie_18 rfl 0 rfl rfl ?_
    refine z_callVV (pc' := 22) (S := St) (As := []) (rest := []) X dX5_untie_19 rfl (kX5_tiesChanged l D E q u15   (w15)) (cwV 0 X.1.2.2.2.2 gX5_untie_X5_tiesChanged rfl rfl rfl (by decide +kernel) ⟨Nat.le_of_ble_eq_true rfl, Nat.le_of_ble_eq_true rfl⟩) 0 rfl rfl rfl rfl (Nat.le_of_ble_eq_true rfl) (fun u19 hp19 => ?_)
    obtain ⟨hn19, hz19, hj19⟩ := hp19
    refine z_aload_n (pc' := 23) X dX5_untie_22 rfl 0 rfl rfl ?_
    refine z_get (pc' := 26) (C := RX5) (ref := "PivotBeats") (T := TX5) (N := 6) (v := .ref (q 36)) X dX5_untie_23 rfl hin5 0 rfl rfl 0 (by decide) (by decide +kernel) rfl rfl ?_
    refine z_get (pc' := 29) (C := RX3) (ref := "PivotBeats$Piece") (T := TX3) (N := 9) (v := .int (jI (u19 4 0))) X dX5_untie_26 rfl hin3 1 rfl rfl 3 (by decide) (by decide +kernel) rfl rfl ?_
    exact z_iret (post := (fun (rv : Int) (uu : St) => ((¬ (0 ≤ k ∧ k < σ 4 0) ∧ rv = -1 ∧ uu = σ) ∨ ((0 ≤ k ∧ k < σ 4 0) ∧ rv = σ 4 0 - 1 ∧ ∃ u1 : St, ((∀ F, (F < 4 ∨ 9 < F) → u1 F = σ F) ∧ u1 4 0 = σ 4 0 - 1 ∧ (∀ y, u1 5 y = (if k ≤ y ∧ y < σ 4 0 - 1 then σ 5 (y + 1) else σ 5 y)) ∧ (∀ y, u1 6 y = (if k ≤ y ∧ y < σ 4 0 - 1 then σ 6 (y + 1) else σ 6 y)) ∧ (∀ y, u1 7 y = (if k ≤ y ∧ y < σ 4 0 - 1 then σ 7 (y + 1) else σ 7 y)) ∧ (∀ y, u1 8 y = (if k ≤ y ∧ y < σ 4 0 - 1 then σ 8 (y + 1) else σ 8 y)) ∧ (∀ y, u1 9 y = (if k ≤ y ∧ y < σ 4 0 - 1 then σ 9 (y + 1) else σ 9 y))) ∧ (∀ F, (F < 10 ∨ 14 < F) → F ≠ 19 → uu F = (u1) F) ∧ uu 19 0 = 0 ∧ JI uu ∧ WfC uu)))) X dX5_untie_29 hret u19 (Or.inr ⟨hp2, by rw [hn19 4 (by omega) (by omega), h415], u15, ⟨hn15, h415, h515, h615, h715, h815, h915⟩, hn19, hz19, hj19, eqC.wf (fun F hF => hn19 F (by omega) (by omega)) w15⟩)
  · refine z_if_ne (tgt := 10) (pc' := 8) X dX5_untie_5 (by decide) rfl (by omega) (fun h => absurd h (by decide)) (fun _ => ?_)
    refine z_iconst (pc' := 9) X dX5_untie_8 rfl ?_
    exact z_iret (post := (fun (rv : Int) (uu : St) => ((¬ (0 ≤ k ∧ k < σ 4 0) ∧ rv = -1 ∧ uu = σ) ∨ ((0 ≤ k ∧ k < σ 4 0) ∧ rv = σ 4 0 - 1 ∧ ∃ u1 : St, ((∀ F, (F < 4 ∨ 9 < F) → u1 F = σ F) ∧ u1 4 0 = σ 4 0 - 1 ∧ (∀ y, u1 5 y = (if k ≤ y ∧ y < σ 4 0 - 1 then σ 5 (y + 1) else σ 5 y)) ∧ (∀ y, u1 6 y = (if k ≤ y ∧ y < σ 4 0 - 1 then σ 6 (y + 1) else σ 6 y)) ∧ (∀ y, u1 7 y = (if k ≤ y ∧ y < σ 4 0 - 1 then σ 7 (y + 1) else σ 7 y)) ∧ (∀ y, u1 8 y = (if k ≤ y ∧ y < σ 4 0 - 1 then σ 8 (y + 1) else σ 8 y)) ∧ (∀ y, u1 9 y = (if k ≤ y ∧ y < σ 4 0 - 1 then σ 9 (y + 1) else σ 9 y))) ∧ (∀ F, (F < 10 ∨ 14 < F) → F ≠ 19 → uu F = (u1) F) ∧ uu 19 0 = 0 ∧ JI uu ∧ WfC uu)))) X dX5_untie_9 hret σ (Or.inl ⟨hp2, rfl, rfl⟩)
set_option maxHeartbeats 4000000 in
set_option maxRecDepth 100000 in
theorem kX5_clear (l : Launch) (D : va_G) (E : Nat → Nat) (q : Nat → Nat) (σ : St) (hwf : WfC σ) : CtI l D E yX5_clear wsX5_clear ({ frames := 5, cells := 0, slots := 0, locals := 138 } : Room) [.ref (q 0)] (CW E q σ) (CW E q) (fun (rv : Int) (uu : St) => (rv = σ 4 0 ∧ (∀ F, (F < 10 ∨ 14 < F) → F ≠ 19 → uu F = (up (up σ 1 0 0) 4 0 0) F) ∧ uu 19 0 = 0 ∧ JI uu ∧ WfC uu)) := by
  refine mk_I (cc := cX5_clear) (maxL := 2) (ret := some .int) (by decide) rfl (Nat.le_of_ble_eq_true rfl) ?_
  intro p e s m args below meth c A X hret
  have hin5 : ∀ x ∈ u_ws RX5 TX5 6, x ∈ wsX5_clear := fun _ h => List.mem_cons_of_mem _ (List.mem_append_left _ (List.mem_append_left _ (List.mem_append_left _ (List.mem_append_right _ h))))
  have hin3 : ∀ x ∈ u_ws RX3 TX3 9, x ∈ wsX5_clear := fun _ h => List.mem_cons_of_mem _ (List.mem_append_left _ (List.mem_append_left _ (List.mem_append_right _ h)))
  have hin1 : ∀ x ∈ u_ws RX1 TX1 5, x ∈ wsX5_clear := fun _ h => List.mem_cons_of_mem _ (List.mem_append_left _ (List.mem_append_right _ h))
  have hin0 : ∀ x ∈ u_ws RX0 TX0 9, x ∈ wsX5_clear := fun _ h => List.mem_cons_of_mem _ (List.mem_append_right _ h)
  refine z_lv (lv' := [(0, .ref (q 0))]) [0] rfl ?_
  obtain ⟨n1, n0, n4, n16⟩ := hwf.n
  refine z_aload_n (pc' := 1) X dX5_clear_0 rfl 0 rfl rfl ?_
  refine z_get (pc' := 4) (C := RX5) (ref := "PivotBeats") (T := TX5) (N := 6) (v := .ref (q 36)) X dX5_clear_1 rfl hin5 0 rfl rfl 0 (by decide) (by decide +kernel) rfl rfl ?_
  refine z_get (pc' := 7) (C := RX3) (ref := "PivotBeats$Piece") (T := TX3) (N := 9) (v := .int (jI (σ 4 0))) X dX5_clear_4 rfl hin3 1 rfl rfl 3 (by decide) (by decide +kernel) rfl rfl ?_
  refine z_istore_n (pc' := 8) (lv' := [(1, .int (jI (σ 4 0))), (0, .ref (q 0))]) X dX5_clear_7 rfl rfl (by decide) rfl ?_
  refine z_aload_n (pc' := 9) X dX5_clear_8 rfl 1 rfl rfl ?_
  refine z_get (pc' := 12) (C := RX5) (ref := "PivotBeats") (T := TX5) (N := 6) (v := .ref (q 36)) X dX5_clear_9 rfl hin5 0 rfl rfl 0 (by decide) (by decide +kernel) rfl rfl ?_
  refine z_iconst (pc' := 13) X dX5_clear_12 rfl ?_
  refine z_put (pc' := 16) (C := RX3) (ref := "PivotBeats$Piece") (T := TX3) (N := 9) (ty := .int) (w' := CW E q (up σ 1 0 0)) X dX5_clear_13 rfl hin3 tyX3 tyX3_ok nmX3 1 rfl rfl 0 (by decide) (by decide +kernel) rfl rfl (by decide +kernel) rfl rfl (Nat.le_of_ble_eq_true rfl) rfl ?_
  refine z_aload_n (pc' := 17) X dX5_clear_16 rfl 1 rfl rfl ?_
  refine z_get (pc' := 20) (C := RX5) (ref := "PivotBeats") (T := TX5) (N := 6) (v := .ref (q 36)) X dX5_clear_17 rfl hin5 0 rfl rfl 0 (by decide) (by decide +kernel) rfl rfl ?_
  refine z_iconst (pc' := 21) X dX5_clear_20 rfl ?_
  refine z_put (pc' := 24) (C := RX3) (ref := "PivotBeats$Piece") (T := TX3) (N := 9) (ty := .int) (w' := CW E q (up (up σ 1 0 0) 4 0 0)) X dX5_clear_21 rfl hin3 tyX3 tyX3_ok nmX3 1 rfl rfl 3 (by decide) (by decide +kernel) rfl rfl (by decide +kernel) rfl rfl (Nat.le_of_ble_eq_true rfl) rfl ?_
  refine z_aload_n (pc' := 25) X dX5_clear_24 rfl 1 rfl rfl ?_
  refine z_callVV (pc' := 28) (S := St) (As := []) (rest := []) X dX5_clear_25 rfl (kX5_tiesChanged l D E q (up (up σ 1 0 0) 4 0 0)   (wf_clr hwf)) (cwV 0 X.1.2.2.2.2 gX5_clear_X5_tiesChanged rfl rfl rfl (by decide +kernel) ⟨Nat.le_of_ble_eq_true rfl, Nat.le_of_ble_eq_true rfl⟩) 0 rfl rfl rfl rfl (Nat.le_of_ble_eq_true rfl) (fun u25 hp25 => ?_)
  obtain ⟨hn25, hz25, hj25⟩ := hp25
  refine z_iload_n (pc' := 29) X dX5_clear_28 rfl 0 rfl rfl ?_
  exact z_iret (post := (fun (rv : Int) (uu : St) => (rv = σ 4 0 ∧ (∀ F, (F < 10 ∨ 14 < F) → F ≠ 19 → uu F = (up (up σ 1 0 0) 4 0 0) F) ∧ uu 19 0 = 0 ∧ JI uu ∧ WfC uu))) X dX5_clear_29 hret u25 (⟨rfl, hn25, hz25, hj25, eqC.wf (fun F hF => hn25 F (by omega) (by omega)) (wf_clr hwf)⟩)
set_option maxHeartbeats 4000000 in
set_option maxRecDepth 100000 in
theorem kX5_ticks (l : Launch) (D : va_G) (E : Nat → Nat) (q : Nat → Nat) (σ : St) (v : Int) (hr : (-2147483648 ≤ v ∧ v < 2147483648)) : CtI l D E yX5_ticks wsX5_ticks ({ frames := 1, cells := 0, slots := 0, locals := 20 } : Room) [.ref (q 0), .int (jI v)] (CW E q σ) (CW E q) (fun (rv : Int) (uu : St) => σ = uu ∧ rv = (if 0 ≤ v ∧ v ≤ 19 then tk v else -1)) := by
  refine mk_I (cc := cX5_ticks) (maxL := 2) (ret := some .int) (by decide) rfl (Nat.le_of_ble_eq_true rfl) ?_
  intro p e s m args below meth c A X hret
  refine z_lv (lv' := [(0, .ref (q 0)), (1, .int (jI v))]) [0, 1] rfl ?_
  refine z_iload_n (pc' := 1) X dX5_ticks_0 rfl 1 rfl rfl ?_
  refine z_callPI (pc' := 4) (S := Unit) (As := [.int (jI v)]) (rest := []) X dX5_ticks_1 rfl (kX5_isValue l D E v  (by omega)) (va_cwS 1 X.1.2.2.2.2 gX5_ticks_X5_isValue rfl rfl rfl (by decide +kernel) ⟨Nat.le_of_ble_eq_true rfl, Nat.le_of_ble_eq_true rfl⟩) rfl rfl (Nat.le_of_ble_eq_true rfl) (fun r1 u1 hp1 => ?_)
  skip
  rcases hp1 with ⟨rfl, hp1⟩ | ⟨rfl, hp1⟩
  · refine z_if_eq (tgt := 15) (pc' := 7) X dX5_ticks_4 (by decide) rfl (by omega) (fun h => absurd h (by decide)) (fun _ => ?_)
    refine z_gets (pc' := 10) (ref := "PivotBeats") X dX5_ticks_7 rfl X.2.2.2.1.1.1 (by decide +kernel) rfl ?_
    refine z_iload_n (pc' := 11) X dX5_ticks_10 rfl 1 rfl rfl ?_
    refine z_ti (pc' := 12) (f := tk) X dX5_ticks_11 rfl X.2.2.2.1.2.1.1 (by decide) (by omega) ?_
    refine z_goto (tgt := 16) X dX5_ticks_12 (by decide) ?_
    exact z_iret (post := (fun (rv : Int) (uu : St) => σ = uu ∧ rv = (if 0 ≤ v ∧ v ≤ 19 then tk v else -1))) X dX5_ticks_16 hret σ (⟨rfl, by first | (rw [if_pos hp1]; done) | (rw [if_neg hp1]; done)⟩)
  · refine z_if_eq (tgt := 15) (pc' := 7) X dX5_ticks_4 (by decide) rfl (by omega) (fun _ => ?_) (fun h => absurd h (by decide))
    refine z_iconst (pc' := 16) X dX5_ticks_15 rfl ?_
    exact z_iret (post := (fun (rv : Int) (uu : St) => σ = uu ∧ rv = (if 0 ≤ v ∧ v ≤ 19 then tk v else -1))) X dX5_ticks_16 hret σ (⟨rfl, by first | (rw [if_pos hp1]; done) | (rw [if_neg hp1]; done)⟩)
set_option maxHeartbeats 4000000 in
set_option maxRecDepth 100000 in
theorem kX5_ofSection (l : Launch) (D : va_G) (E : Nat → Nat) (q : Nat → Nat) (σ : St) (s_ what : Int) (hwf : WfC σ) (hji : JI σ) (hr : (-2147483648 ≤ s_ ∧ s_ < 2147483648) ∧ (-2147483648 ≤ what ∧ what < 2147483648)) : CtI l D E yX5_ofSection wsX5_ofSection ({ frames := 3, cells := 0, slots := 0, locals := 64 } : Room) [.ref (q 0), .int (jI s_), .int (jI what)] (CW E q σ) (CW E q) (fun (rv : Int) (uu : St) => σ = uu ∧ rv = fSec (σ 1 0) (σ 2) (σ 3) (σ 4 0) (σ 5) (σ 6) (σ 7) (σ 8) (σ 16 0) (σ 15) s_ what) := by
  refine mk_I (cc := cX5_ofSection) (maxL := 3) (ret := some .int) (by decide) rfl (Nat.le_of_ble_eq_true rfl) ?_
  intro p e s m args below meth c A X hret
  have hin5 : ∀ x ∈ u_ws RX5 TX5 6, x ∈ wsX5_ofSection := fun _ h => List.mem_cons_of_mem _ (List.mem_append_left _ (List.mem_append_left _ (List.mem_append_left _ (List.mem_append_right _ h))))
  have hin3 : ∀ x ∈ u_ws RX3 TX3 9, x ∈ wsX5_ofSection := fun _ h => List.mem_cons_of_mem _ (List.mem_append_left _ (List.mem_append_left _ (List.mem_append_right _ h)))
  have hin1 : ∀ x ∈ u_ws RX1 TX1 5, x ∈ wsX5_ofSection := fun _ h => List.mem_cons_of_mem _ (List.mem_append_left _ (List.mem_append_right _ h))
  have hin2 : ∀ x ∈ u_ws RX2 TX2 2, x ∈ wsX5_ofSection := fun _ h => List.mem_cons_of_mem _ (List.mem_append_right _ h)
  refine z_lv (lv' := [(0, .ref (q 0)), (1, .int (jI s_)), (2, .int (jI what))]) [0, 1, 2] rfl ?_
  obtain ⟨n1, n0, n4, n16⟩ := hwf.n
  refine z_aload_n (pc' := 1) X dX5_ofSection_0 rfl 0 rfl rfl ?_
  refine z_iload_n (pc' := 2) X dX5_ofSection_1 rfl 1 rfl rfl ?_
  refine z_callVI (pc' := 5) (S := St) (As := [.int (jI s_)]) (rest := []) X dX5_ofSection_2 rfl (kX5_isSection l D E q σ s_  (hwf) (by omega)) (cwV 1 X.1.2.2.2.2 gX5_ofSection_X5_isSection rfl rfl rfl (by decide +kernel) ⟨Nat.le_of_ble_eq_true rfl, Nat.le_of_ble_eq_true rfl⟩) 0 rfl rfl rfl rfl (Nat.le_of_ble_eq_true rfl) (fun r2 u2 hp2 => ?_)
  obtain ⟨rfl, hp2⟩ := hp2
  rcases hp2 with ⟨rfl, hp2⟩ | ⟨rfl, hp2⟩
  · refine z_if_ne (tgt := 10) (pc' := 8) X dX5_ofSection_5 (by decide) rfl (by omega) (fun _ => ?_) (fun h => absurd h (by decide))
    have js := hji.g hwf (s := s_) (by omega)
    have j0 := hji.g hwf (s := 0) (by omega)
    refine z_iload_n (pc' := 11) X dX5_ofSection_10 rfl 2 rfl rfl ?_
    rcases (show what = 0 ∨ what = 1 ∨ what = 2 ∨ what = 3 ∨ what = 4 ∨ what = 5 ∨ (what < 0 ∨ 5 < what) by omega) with h11 | h11 | h11 | h11 | h11 | h11 | h11
    · refine z_tableIn (tgt := 48) (off := 37) X dX5_ofSection_11 (by decide) (by omega) (by omega) (by rw [h11]; rfl) ?_
      refine z_aload_n (pc' := 49) X dX5_ofSection_48 rfl 0 rfl rfl ?_
      refine z_get (pc' := 52) (C := RX5) (ref := "PivotBeats") (T := TX5) (N := 6) (v := .ref (q 36)) X dX5_ofSection_49 rfl hin5 0 rfl rfl 0 (by decide) (by decide +kernel) rfl rfl ?_
      refine z_get (pc' := 55) (C := RX3) (ref := "PivotBeats$Piece") (T := TX3) (N := 9) (v := .ref (q 2)) X dX5_ofSection_52 rfl hin3 1 rfl rfl 1 (by decide) (by decide +kernel) rfl rfl ?_
      refine z_iload_n (pc' := 56) X dX5_ofSection_55 rfl 1 rfl rfl ?_
      refine z_iald (pc' := 57) (f := σ 2) (n := 7) X dX5_ofSection_56 rfl 6 rfl (by decide) (by omega) ?_
      exact z_iret (post := (fun (rv : Int) (uu : St) => σ = uu ∧ rv = fSec (σ 1 0) (σ 2) (σ 3) (σ 4 0) (σ 5) (σ 6) (σ 7) (σ 8) (σ 16 0) (σ 15) s_ what)) X dX5_ofSection_57 hret σ (⟨rfl, by unfold fSec; rw [if_pos hp2, h11, if_pos rfl]⟩)
    · refine z_tableIn (tgt := 58) (off := 47) X dX5_ofSection_11 (by decide) (by omega) (by omega) (by rw [h11]; rfl) ?_
      refine z_aload_n (pc' := 59) X dX5_ofSection_58 rfl 0 rfl rfl ?_
      refine z_get (pc' := 62) (C := RX5) (ref := "PivotBeats") (T := TX5) (N := 6) (v := .ref (q 36)) X dX5_ofSection_59 rfl hin5 0 rfl rfl 0 (by decide) (by decide +kernel) rfl rfl ?_
      refine z_iload_n (pc' := 63) X dX5_ofSection_62 rfl 1 rfl rfl ?_
      refine z_callVI (pc' := 66) (S := St) (As := [.int (jI s_)]) (rest := []) X dX5_ofSection_63 rfl (kX3_tiesAt l D E q σ s_  (hwf) (by omega)) (cwV 1 X.1.2.2.2.2 gX5_ofSection_X3_tiesAt rfl rfl rfl (by decide +kernel) ⟨Nat.le_of_ble_eq_true rfl, Nat.le_of_ble_eq_true rfl⟩) 1 rfl rfl rfl rfl (Nat.le_of_ble_eq_true rfl) (fun r63 u63 hp63 => ?_)
      obtain ⟨rfl, hp63⟩ := hp63; replace hp63 := hp63.symm; subst hp63
      exact z_iret (post := (fun (rv : Int) (uu : St) => σ = uu ∧ rv = fSec (σ 1 0) (σ 2) (σ 3) (σ 4 0) (σ 5) (σ 6) (σ 7) (σ 8) (σ 16 0) (σ 15) s_ what)) X dX5_ofSection_66 hret σ (⟨rfl, by unfold fSec; rw [if_pos hp2, h11, if_neg (by decide), if_pos rfl]⟩)
    · refine z_tableIn (tgt := 67) (off := 56) X dX5_ofSection_11 (by decide) (by omega) (by omega) (by rw [h11]; rfl) ?_
      refine z_aload_n (pc' := 68) X dX5_ofSection_67 rfl 0 rfl rfl ?_
      refine z_get (pc' := 71) (C := RX5) (ref := "PivotBeats") (T := TX5) (N := 6) (v := .ref (q 37)) X dX5_ofSection_68 rfl hin5 0 rfl rfl 1 (by decide) (by decide +kernel) rfl rfl ?_
      refine z_iload_n (pc' := 72) X dX5_ofSection_71 rfl 1 rfl rfl ?_
      refine z_aload_n (pc' := 73) X dX5_ofSection_72 rfl 0 rfl rfl ?_
      refine z_get (pc' := 76) (C := RX5) (ref := "PivotBeats") (T := TX5) (N := 6) (v := .ref (q 36)) X dX5_ofSection_73 rfl hin5 0 rfl rfl 0 (by decide) (by decide +kernel) rfl rfl ?_
      refine z_get (pc' := 79) (C := RX3) (ref := "PivotBeats$Piece") (T := TX3) (N := 9) (v := .int (jI (σ 1 0))) X dX5_ofSection_76 rfl hin3 1 rfl rfl 0 (by decide) (by decide +kernel) rfl rfl ?_
      refine z_callVI (pc' := 82) (S := St) (As := [.int (jI s_), .int (jI (σ 1 0))]) (rest := []) X dX5_ofSection_79 rfl (kX1_sizeOfSet l D E q σ s_ (σ 1 0)  (by omega) (fun s s0 s1 => by have := hji.g hwf (s := s) ⟨s0, s1, by omega⟩; omega)) (cwV 2 X.1.2.2.2.2 gX5_ofSection_X1_sizeOfSet rfl rfl rfl (by decide +kernel) ⟨Nat.le_of_ble_eq_true rfl, Nat.le_of_ble_eq_true rfl⟩) 2 rfl rfl rfl rfl (Nat.le_of_ble_eq_true rfl) (fun r79 u79 hp79 => ?_)
      obtain ⟨rfl, hp79⟩ := hp79; replace hp79 := hp79.symm; subst hp79
      exact z_iret (post := (fun (rv : Int) (uu : St) => σ = uu ∧ rv = fSec (σ 1 0) (σ 2) (σ 3) (σ 4 0) (σ 5) (σ 6) (σ 7) (σ 8) (σ 16 0) (σ 15) s_ what)) X dX5_ofSection_82 hret σ (⟨rfl, by unfold fSec; rw [if_pos hp2, h11, if_neg (by decide), if_neg (by decide), if_pos rfl]; exact szC hwf hji hp2⟩)
    · refine z_tableIn (tgt := 83) (off := 72) X dX5_ofSection_11 (by decide) (by omega) (by omega) (by rw [h11]; rfl) ?_
      refine z_aload_n (pc' := 84) X dX5_ofSection_83 rfl 0 rfl rfl ?_
      refine z_get (pc' := 87) (C := RX5) (ref := "PivotBeats") (T := TX5) (N := 6) (v := .ref (q 37)) X dX5_ofSection_84 rfl hin5 0 rfl rfl 1 (by decide) (by decide +kernel) rfl rfl ?_
      refine z_get (pc' := 90) (C := RX1) (ref := "PivotBeats$Joins") (T := TX1) (N := 5) (v := .ref (q 10)) X dX5_ofSection_87 rfl hin1 2 rfl rfl 0 (by decide) (by decide +kernel) rfl rfl ?_
      refine z_iload_n (pc' := 91) X dX5_ofSection_90 rfl 1 rfl rfl ?_
      refine z_iald (pc' := 92) (f := σ 10) (n := 7) X dX5_ofSection_91 rfl 13 rfl (by decide) (by omega) ?_
      exact z_iret (post := (fun (rv : Int) (uu : St) => σ = uu ∧ rv = fSec (σ 1 0) (σ 2) (σ 3) (σ 4 0) (σ 5) (σ 6) (σ 7) (σ 8) (σ 16 0) (σ 15) s_ what)) X dX5_ofSection_92 hret σ (⟨rfl, by unfold fSec; rw [if_pos hp2, h11, if_neg (by decide), if_neg (by decide), if_neg (by decide), if_pos rfl, js.1]⟩)
    · refine z_tableIn (tgt := 93) (off := 82) X dX5_ofSection_11 (by decide) (by omega) (by omega) (by rw [h11]; rfl) ?_
      refine z_aload_n (pc' := 94) X dX5_ofSection_93 rfl 0 rfl rfl ?_
      refine z_get (pc' := 97) (C := RX5) (ref := "PivotBeats") (T := TX5) (N := 6) (v := .ref (q 36)) X dX5_ofSection_94 rfl hin5 0 rfl rfl 0 (by decide) (by decide +kernel) rfl rfl ?_
      refine z_get (pc' := 100) (C := RX3) (ref := "PivotBeats$Piece") (T := TX3) (N := 9) (v := .ref (q 3)) X dX5_ofSection_97 rfl hin3 1 rfl rfl 2 (by decide) (by decide +kernel) rfl rfl ?_
      refine z_iload_n (pc' := 101) X dX5_ofSection_100 rfl 1 rfl rfl ?_
      refine z_iald (pc' := 102) (f := σ 3) (n := 7) X dX5_ofSection_101 rfl 7 rfl (by decide) (by omega) ?_
      exact z_iret (post := (fun (rv : Int) (uu : St) => σ = uu ∧ rv = fSec (σ 1 0) (σ 2) (σ 3) (σ 4 0) (σ 5) (σ 6) (σ 7) (σ 8) (σ 16 0) (σ 15) s_ what)) X dX5_ofSection_102 hret σ (⟨rfl, by unfold fSec; rw [if_pos hp2, h11, if_neg (by decide), if_neg (by decide), if_neg (by decide), if_neg (by decide), if_pos rfl]⟩)
    · refine z_tableIn (tgt := 103) (off := 92) X dX5_ofSection_11 (by decide) (by omega) (by omega) (by rw [h11]; rfl) ?_
      refine z_aload_n (pc' := 104) X dX5_ofSection_103 rfl 0 rfl rfl ?_
      refine z_iload_n (pc' := 105) X dX5_ofSection_104 rfl 1 rfl rfl ?_
      refine z_callVI (pc' := 108) (S := St) (As := [.int (jI s_)]) (rest := []) X dX5_ofSection_105 rfl (kX5_pinHolds l D E q σ s_  (hwf) (by omega)) (cwV 1 X.1.2.2.2.2 gX5_ofSection_X5_pinHolds rfl rfl rfl (by decide +kernel) ⟨Nat.le_of_ble_eq_true rfl, Nat.le_of_ble_eq_true rfl⟩) 0 rfl rfl rfl rfl (Nat.le_of_ble_eq_true rfl) (fun r105 u105 hp105 => ?_)
      obtain ⟨rfl, hp105⟩ := hp105
      rcases hp105 with ⟨rfl, hp105⟩ | ⟨rfl, hp105⟩
      · refine z_if_eq (tgt := 115) (pc' := 111) X dX5_ofSection_108 (by decide) rfl (by omega) (fun h => absurd h (by decide)) (fun _ => ?_)
        refine z_iconst (pc' := 112) X dX5_ofSection_111 rfl ?_
        refine z_goto (tgt := 116) X dX5_ofSection_112 (by decide) ?_
        exact z_iret (post := (fun (rv : Int) (uu : St) => σ = uu ∧ rv = fSec (σ 1 0) (σ 2) (σ 3) (σ 4 0) (σ 5) (σ 6) (σ 7) (σ 8) (σ 16 0) (σ 15) s_ what)) X dX5_ofSection_116 hret σ (⟨rfl, by unfold fSec; rw [if_pos hp2, h11, if_neg (by decide), if_neg (by decide), if_neg (by decide), if_neg (by decide), if_neg (by decide), if_pos rfl]; have := pnH_01 (σ 16 0) (σ 15) (σ 3 s_); omega⟩)
      · refine z_if_eq (tgt := 115) (pc' := 111) X dX5_ofSection_108 (by decide) rfl (by omega) (fun _ => ?_) (fun h => absurd h (by decide))
        refine z_iconst (pc' := 116) X dX5_ofSection_115 rfl ?_
        exact z_iret (post := (fun (rv : Int) (uu : St) => σ = uu ∧ rv = fSec (σ 1 0) (σ 2) (σ 3) (σ 4 0) (σ 5) (σ 6) (σ 7) (σ 8) (σ 16 0) (σ 15) s_ what)) X dX5_ofSection_116 hret σ (⟨rfl, by unfold fSec; rw [if_pos hp2, h11, if_neg (by decide), if_neg (by decide), if_neg (by decide), if_neg (by decide), if_neg (by decide), if_pos rfl]; have := pnH_01 (σ 16 0) (σ 15) (σ 3 s_); omega⟩)
    · refine z_tableOut (tgt := 117) X dX5_ofSection_11 (by decide) (by omega) h11 ?_
      refine z_bipush (pc' := 119) X dX5_ofSection_117 rfl rfl ?_
      exact z_iret (post := (fun (rv : Int) (uu : St) => σ = uu ∧ rv = fSec (σ 1 0) (σ 2) (σ 3) (σ 4 0) (σ 5) (σ 6) (σ 7) (σ 8) (σ 16 0) (σ 15) s_ what)) X dX5_ofSection_119 hret σ (⟨rfl, by unfold fSec; rw [if_pos hp2, if_neg (show ¬ what = 0 by omega), if_neg (show ¬ what = 1 by omega), if_neg (show ¬ what = 2 by omega), if_neg (show ¬ what = 3 by omega), if_neg (show ¬ what = 4 by omega), if_neg (show ¬ what = 5 by omega)]⟩)
  · refine z_if_ne (tgt := 10) (pc' := 8) X dX5_ofSection_5 (by decide) rfl (by omega) (fun h => absurd h (by decide)) (fun _ => ?_)
    refine z_iconst (pc' := 9) X dX5_ofSection_8 rfl ?_
    exact z_iret (post := (fun (rv : Int) (uu : St) => σ = uu ∧ rv = fSec (σ 1 0) (σ 2) (σ 3) (σ 4 0) (σ 5) (σ 6) (σ 7) (σ 8) (σ 16 0) (σ 15) s_ what)) X dX5_ofSection_9 hret σ (⟨rfl, by unfold fSec; rw [if_neg hp2]⟩)
set_option maxHeartbeats 4000000 in
set_option maxRecDepth 100000 in
theorem kX5_ofTie (l : Launch) (D : va_G) (E : Nat → Nat) (q : Nat → Nat) (σ : St) (k what : Int) (hwf : WfC σ) (hji : JI σ) (hr : (-2147483648 ≤ k ∧ k < 2147483648) ∧ (-2147483648 ≤ what ∧ what < 2147483648)) : CtI l D E yX5_ofTie wsX5_ofTie ({ frames := 1, cells := 0, slots := 0, locals := 21 } : Room) [.ref (q 0), .int (jI k), .int (jI what)] (CW E q σ) (CW E q) (fun (rv : Int) (uu : St) => σ = uu ∧ rv = fTie (σ 4 0) (σ 5) (σ 6) (σ 7) (σ 8) (σ 9) k what) := by
  refine mk_I (cc := cX5_ofTie) (maxL := 3) (ret := some .int) (by decide) rfl (Nat.le_of_ble_eq_true rfl) ?_
  intro p e s m args below meth c A X hret
  have hin5 : ∀ x ∈ u_ws RX5 TX5 6, x ∈ wsX5_ofTie := fun _ h => List.mem_cons_of_mem _ (List.mem_append_left _ (List.mem_append_left _ (List.mem_append_right _ h)))
  have hin3 : ∀ x ∈ u_ws RX3 TX3 9, x ∈ wsX5_ofTie := fun _ h => List.mem_cons_of_mem _ (List.mem_append_left _ (List.mem_append_right _ h))
  have hin1 : ∀ x ∈ u_ws RX1 TX1 5, x ∈ wsX5_ofTie := fun _ h => List.mem_cons_of_mem _ (List.mem_append_right _ h)
  refine z_lv (lv' := [(0, .ref (q 0)), (1, .int (jI k)), (2, .int (jI what))]) [0, 1, 2] rfl ?_
  obtain ⟨n1, n0, n4, n16⟩ := hwf.n
  refine z_aload_n (pc' := 1) X dX5_ofTie_0 rfl 0 rfl rfl ?_
  refine z_iload_n (pc' := 2) X dX5_ofTie_1 rfl 1 rfl rfl ?_
  refine z_callVI (pc' := 5) (S := St) (As := [.int (jI k)]) (rest := []) X dX5_ofTie_2 rfl (kX5_isTie l D E q σ k  (hwf) (by omega)) (cwV 1 X.1.2.2.2.2 gX5_ofTie_X5_isTie rfl rfl rfl (by decide +kernel) ⟨Nat.le_of_ble_eq_true rfl, Nat.le_of_ble_eq_true rfl⟩) 0 rfl rfl rfl rfl (Nat.le_of_ble_eq_true rfl) (fun r2 u2 hp2 => ?_)
  obtain ⟨rfl, hp2⟩ := hp2
  rcases hp2 with ⟨rfl, hp2⟩ | ⟨rfl, hp2⟩
  · refine z_if_ne (tgt := 10) (pc' := 8) X dX5_ofTie_5 (by decide) rfl (by omega) (fun _ => ?_) (fun h => absurd h (by decide))
    have jk := hji.k hp2
    refine z_iload_n (pc' := 11) X dX5_ofTie_10 rfl 2 rfl rfl ?_
    rcases (show what = 0 ∨ what = 1 ∨ what = 2 ∨ what = 3 ∨ what = 4 ∨ what = 5 ∨ (what < 0 ∨ 5 < what) by omega) with h11 | h11 | h11 | h11 | h11 | h11 | h11
    · refine z_tableIn (tgt := 48) (off := 37) X dX5_ofTie_11 (by decide) (by omega) (by omega) (by rw [h11]; rfl) ?_
      refine z_aload_n (pc' := 49) X dX5_ofTie_48 rfl 0 rfl rfl ?_
      refine z_get (pc' := 52) (C := RX5) (ref := "PivotBeats") (T := TX5) (N := 6) (v := .ref (q 36)) X dX5_ofTie_49 rfl hin5 0 rfl rfl 0 (by decide) (by decide +kernel) rfl rfl ?_
      refine z_get (pc' := 55) (C := RX3) (ref := "PivotBeats$Piece") (T := TX3) (N := 9) (v := .ref (q 5)) X dX5_ofTie_52 rfl hin3 1 rfl rfl 4 (by decide) (by decide +kernel) rfl rfl ?_
      refine z_iload_n (pc' := 56) X dX5_ofTie_55 rfl 1 rfl rfl ?_
      refine z_iald (pc' := 57) (f := σ 5) (n := 12) X dX5_ofTie_56 rfl 8 rfl (by decide) (by omega) ?_
      exact z_iret (post := (fun (rv : Int) (uu : St) => σ = uu ∧ rv = fTie (σ 4 0) (σ 5) (σ 6) (σ 7) (σ 8) (σ 9) k what)) X dX5_ofTie_57 hret σ (⟨rfl, by unfold fTie; rw [if_pos hp2, h11, if_pos rfl]⟩)
    · refine z_tableIn (tgt := 58) (off := 47) X dX5_ofTie_11 (by decide) (by omega) (by omega) (by rw [h11]; rfl) ?_
      refine z_aload_n (pc' := 59) X dX5_ofTie_58 rfl 0 rfl rfl ?_
      refine z_get (pc' := 62) (C := RX5) (ref := "PivotBeats") (T := TX5) (N := 6) (v := .ref (q 36)) X dX5_ofTie_59 rfl hin5 0 rfl rfl 0 (by decide) (by decide +kernel) rfl rfl ?_
      refine z_get (pc' := 65) (C := RX3) (ref := "PivotBeats$Piece") (T := TX3) (N := 9) (v := .ref (q 6)) X dX5_ofTie_62 rfl hin3 1 rfl rfl 5 (by decide) (by decide +kernel) rfl rfl ?_
      refine z_iload_n (pc' := 66) X dX5_ofTie_65 rfl 1 rfl rfl ?_
      refine z_iald (pc' := 67) (f := σ 6) (n := 12) X dX5_ofTie_66 rfl 9 rfl (by decide) (by omega) ?_
      exact z_iret (post := (fun (rv : Int) (uu : St) => σ = uu ∧ rv = fTie (σ 4 0) (σ 5) (σ 6) (σ 7) (σ 8) (σ 9) k what)) X dX5_ofTie_67 hret σ (⟨rfl, by unfold fTie; rw [if_pos hp2, h11, if_neg (by decide), if_pos rfl]⟩)
    · refine z_tableIn (tgt := 68) (off := 57) X dX5_ofTie_11 (by decide) (by omega) (by omega) (by rw [h11]; rfl) ?_
      refine z_aload_n (pc' := 69) X dX5_ofTie_68 rfl 0 rfl rfl ?_
      refine z_get (pc' := 72) (C := RX5) (ref := "PivotBeats") (T := TX5) (N := 6) (v := .ref (q 36)) X dX5_ofTie_69 rfl hin5 0 rfl rfl 0 (by decide) (by decide +kernel) rfl rfl ?_
      refine z_get (pc' := 75) (C := RX3) (ref := "PivotBeats$Piece") (T := TX3) (N := 9) (v := .ref (q 7)) X dX5_ofTie_72 rfl hin3 1 rfl rfl 6 (by decide) (by decide +kernel) rfl rfl ?_
      refine z_iload_n (pc' := 76) X dX5_ofTie_75 rfl 1 rfl rfl ?_
      refine z_iald (pc' := 77) (f := σ 7) (n := 12) X dX5_ofTie_76 rfl 10 rfl (by decide) (by omega) ?_
      exact z_iret (post := (fun (rv : Int) (uu : St) => σ = uu ∧ rv = fTie (σ 4 0) (σ 5) (σ 6) (σ 7) (σ 8) (σ 9) k what)) X dX5_ofTie_77 hret σ (⟨rfl, by unfold fTie; rw [if_pos hp2, h11, if_neg (by decide), if_neg (by decide), if_pos rfl]⟩)
    · refine z_tableIn (tgt := 78) (off := 67) X dX5_ofTie_11 (by decide) (by omega) (by omega) (by rw [h11]; rfl) ?_
      refine z_aload_n (pc' := 79) X dX5_ofTie_78 rfl 0 rfl rfl ?_
      refine z_get (pc' := 82) (C := RX5) (ref := "PivotBeats") (T := TX5) (N := 6) (v := .ref (q 36)) X dX5_ofTie_79 rfl hin5 0 rfl rfl 0 (by decide) (by decide +kernel) rfl rfl ?_
      refine z_get (pc' := 85) (C := RX3) (ref := "PivotBeats$Piece") (T := TX3) (N := 9) (v := .ref (q 8)) X dX5_ofTie_82 rfl hin3 1 rfl rfl 7 (by decide) (by decide +kernel) rfl rfl ?_
      refine z_iload_n (pc' := 86) X dX5_ofTie_85 rfl 1 rfl rfl ?_
      refine z_iald (pc' := 87) (f := σ 8) (n := 12) X dX5_ofTie_86 rfl 11 rfl (by decide) (by omega) ?_
      exact z_iret (post := (fun (rv : Int) (uu : St) => σ = uu ∧ rv = fTie (σ 4 0) (σ 5) (σ 6) (σ 7) (σ 8) (σ 9) k what)) X dX5_ofTie_87 hret σ (⟨rfl, by unfold fTie; rw [if_pos hp2, h11, if_neg (by decide), if_neg (by decide), if_neg (by decide), if_pos rfl]⟩)
    · refine z_tableIn (tgt := 88) (off := 77) X dX5_ofTie_11 (by decide) (by omega) (by omega) (by rw [h11]; rfl) ?_
      refine z_aload_n (pc' := 89) X dX5_ofTie_88 rfl 0 rfl rfl ?_
      refine z_get (pc' := 92) (C := RX5) (ref := "PivotBeats") (T := TX5) (N := 6) (v := .ref (q 36)) X dX5_ofTie_89 rfl hin5 0 rfl rfl 0 (by decide) (by decide +kernel) rfl rfl ?_
      refine z_get (pc' := 95) (C := RX3) (ref := "PivotBeats$Piece") (T := TX3) (N := 9) (v := .ref (q 9)) X dX5_ofTie_92 rfl hin3 1 rfl rfl 8 (by decide) (by decide +kernel) rfl rfl ?_
      refine z_iload_n (pc' := 96) X dX5_ofTie_95 rfl 1 rfl rfl ?_
      refine z_iald (pc' := 97) (f := σ 9) (n := 12) X dX5_ofTie_96 rfl 12 rfl (by decide) (by omega) ?_
      exact z_iret (post := (fun (rv : Int) (uu : St) => σ = uu ∧ rv = fTie (σ 4 0) (σ 5) (σ 6) (σ 7) (σ 8) (σ 9) k what)) X dX5_ofTie_97 hret σ (⟨rfl, by unfold fTie; rw [if_pos hp2, h11, if_neg (by decide), if_neg (by decide), if_neg (by decide), if_neg (by decide), if_pos rfl]⟩)
    · refine z_tableIn (tgt := 98) (off := 87) X dX5_ofTie_11 (by decide) (by omega) (by omega) (by rw [h11]; rfl) ?_
      refine z_aload_n (pc' := 99) X dX5_ofTie_98 rfl 0 rfl rfl ?_
      refine z_get (pc' := 102) (C := RX5) (ref := "PivotBeats") (T := TX5) (N := 6) (v := .ref (q 37)) X dX5_ofTie_99 rfl hin5 0 rfl rfl 1 (by decide) (by decide +kernel) rfl rfl ?_
      refine z_get (pc' := 105) (C := RX1) (ref := "PivotBeats$Joins") (T := TX1) (N := 5) (v := .ref (q 14)) X dX5_ofTie_102 rfl hin1 2 rfl rfl 4 (by decide) (by decide +kernel) rfl rfl ?_
      refine z_iload_n (pc' := 106) X dX5_ofTie_105 rfl 1 rfl rfl ?_
      refine z_iald (pc' := 107) (f := σ 14) (n := 12) X dX5_ofTie_106 rfl 17 rfl (by decide) (by omega) ?_
      exact z_iret (post := (fun (rv : Int) (uu : St) => σ = uu ∧ rv = fTie (σ 4 0) (σ 5) (σ 6) (σ 7) (σ 8) (σ 9) k what)) X dX5_ofTie_107 hret σ (⟨rfl, by unfold fTie; rw [if_pos hp2, h11, if_neg (by decide), if_neg (by decide), if_neg (by decide), if_neg (by decide), if_neg (by decide), if_pos rfl, jk.1]⟩)
    · refine z_tableOut (tgt := 108) X dX5_ofTie_11 (by decide) (by omega) h11 ?_
      refine z_bipush (pc' := 110) X dX5_ofTie_108 rfl rfl ?_
      exact z_iret (post := (fun (rv : Int) (uu : St) => σ = uu ∧ rv = fTie (σ 4 0) (σ 5) (σ 6) (σ 7) (σ 8) (σ 9) k what)) X dX5_ofTie_110 hret σ (⟨rfl, by unfold fTie; rw [if_pos hp2, if_neg (show ¬ what = 0 by omega), if_neg (show ¬ what = 1 by omega), if_neg (show ¬ what = 2 by omega), if_neg (show ¬ what = 3 by omega), if_neg (show ¬ what = 4 by omega), if_neg (show ¬ what = 5 by omega)]⟩)
  · refine z_if_ne (tgt := 10) (pc' := 8) X dX5_ofTie_5 (by decide) rfl (by omega) (fun h => absurd h (by decide)) (fun _ => ?_)
    refine z_iconst (pc' := 9) X dX5_ofTie_8 rfl ?_
    exact z_iret (post := (fun (rv : Int) (uu : St) => σ = uu ∧ rv = fTie (σ 4 0) (σ 5) (σ 6) (σ 7) (σ 8) (σ 9) k what)) X dX5_ofTie_9 hret σ (⟨rfl, by unfold fTie; rw [if_neg hp2]⟩)
set_option maxHeartbeats 4000000 in
set_option maxRecDepth 100000 in
theorem kX5_tempo (l : Launch) (D : va_G) (E : Nat → Nat) (q : Nat → Nat) (σ : St) (s_ which : Int) (hwf : WfC σ) (hji : JI σ) (hr : (-2147483648 ≤ s_ ∧ s_ < 2147483648) ∧ (-2147483648 ≤ which ∧ which < 2147483648)) : CtL l D E yX5_tempo wsX5_tempo ({ frames := 3, cells := 0, slots := 0, locals := 73 } : Room) [.ref (q 0), .int (jI s_), .int (jI which)] (CW E q σ) (CW E q) (fun (rv : Int) (uu : St) => σ = uu ∧ rv = fTempo (σ 1 0) (σ 0 0) (σ 4 0) (σ 5) (σ 6) (σ 7) (σ 8) s_ which) := by
  refine mk_L (cc := cX5_tempo) (maxL := 3) (ret := some .long) (by decide) rfl (Nat.le_of_ble_eq_true rfl) ?_
  intro p e s m args below meth c A X hret
  have hin5 : ∀ x ∈ u_ws RX5 TX5 6, x ∈ wsX5_tempo := fun _ h => List.mem_cons_of_mem _ (List.mem_append_left _ (List.mem_append_left _ (List.mem_append_right _ h)))
  have hin3 : ∀ x ∈ u_ws RX3 TX3 9, x ∈ wsX5_tempo := fun _ h => List.mem_cons_of_mem _ (List.mem_append_left _ (List.mem_append_right _ h))
  have hin1 : ∀ x ∈ u_ws RX1 TX1 5, x ∈ wsX5_tempo := fun _ h => List.mem_cons_of_mem _ (List.mem_append_right _ h)
  refine z_lv (lv' := [(0, .ref (q 0)), (1, .int (jI s_)), (2, .int (jI which))]) [0, 1, 2] rfl ?_
  obtain ⟨n1, n0, n4, n16⟩ := hwf.n
  refine z_aload_n (pc' := 1) X dX5_tempo_0 rfl 0 rfl rfl ?_
  refine z_iload_n (pc' := 2) X dX5_tempo_1 rfl 1 rfl rfl ?_
  refine z_callVI (pc' := 5) (S := St) (As := [.int (jI s_)]) (rest := []) X dX5_tempo_2 rfl (kX5_isSection l D E q σ s_  (hwf) (by omega)) (cwV 1 X.1.2.2.2.2 gX5_tempo_X5_isSection rfl rfl rfl (by decide +kernel) ⟨Nat.le_of_ble_eq_true rfl, Nat.le_of_ble_eq_true rfl⟩) 0 rfl rfl rfl rfl (Nat.le_of_ble_eq_true rfl) (fun r2 u2 hp2 => ?_)
  obtain ⟨rfl, hp2⟩ := hp2
  rcases hp2 with ⟨rfl, hp2⟩ | ⟨rfl, hp2⟩
  · refine z_if_ne (tgt := 12) (pc' := 8) X dX5_tempo_5 (by decide) rfl (by omega) (fun _ => ?_) (fun h => absurd h (by decide))
    refine z_iload_n (pc' := 13) X dX5_tempo_12 rfl 2 rfl rfl ?_
    refine z_callPI (pc' := 16) (S := Unit) (As := [.int (jI which)]) (rest := []) X dX5_tempo_13 rfl (kX5_isWhich l D E which  (by omega)) (va_cwS 1 X.1.2.2.2.2 gX5_tempo_X5_isWhich rfl rfl rfl (by decide +kernel) ⟨Nat.le_of_ble_eq_true rfl, Nat.le_of_ble_eq_true rfl⟩) rfl rfl (Nat.le_of_ble_eq_true rfl) (fun r13 u13 hp13 => ?_)
    skip
    rcases hp13 with ⟨rfl, hp13⟩ | ⟨rfl, hp13⟩
    · refine z_if_ne (tgt := 23) (pc' := 19) X dX5_tempo_16 (by decide) rfl (by omega) (fun _ => ?_) (fun h => absurd h (by decide))
      have js := hji.g hwf (s := s_) (by omega)
      have j0 := hji.g hwf (s := 0) (by omega)
      have pl : σ 10 s_ = 0 ↔ jS (σ 5) (σ 6) (σ 7) (σ 8) (σ 4 0).toNat 0 s_ = jS (σ 5) (σ 6) (σ 7) (σ 8) (σ 4 0).toNat 0 0 := by rw [js.1, jS_00 hwf.tok]
      refine z_aload_n (pc' := 24) X dX5_tempo_23 rfl 0 rfl rfl ?_
      refine z_get (pc' := 27) (C := RX5) (ref := "PivotBeats") (T := TX5) (N := 6) (v := .ref (q 37)) X dX5_tempo_24 rfl hin5 0 rfl rfl 1 (by decide) (by decide +kernel) rfl rfl ?_
      refine z_iload_n (pc' := 28) X dX5_tempo_27 rfl 1 rfl rfl ?_
      refine z_callVI (pc' := 31) (S := St) (As := [.int (jI s_)]) (rest := []) X dX5_tempo_28 rfl (kX1_isPlayed l D E q σ s_  (by omega)) (cwV 1 X.1.2.2.2.2 gX5_tempo_X1_isPlayed rfl rfl rfl (by decide +kernel) ⟨Nat.le_of_ble_eq_true rfl, Nat.le_of_ble_eq_true rfl⟩) 2 rfl rfl rfl rfl (Nat.le_of_ble_eq_true rfl) (fun r28 u28 hp28 => ?_)
      obtain ⟨rfl, hp28⟩ := hp28
      rcases hp28 with ⟨rfl, hp28⟩ | ⟨rfl, hp28⟩
      · refine z_if_eq (tgt := 43) (pc' := 34) X dX5_tempo_31 (by decide) rfl (by omega) (fun h => absurd h (by decide)) (fun _ => ?_)
        refine z_aload_n (pc' := 35) X dX5_tempo_34 rfl 0 rfl rfl ?_
        refine z_iload_n (pc' := 36) X dX5_tempo_35 rfl 1 rfl rfl ?_
        refine z_iload_n (pc' := 37) X dX5_tempo_36 rfl 2 rfl rfl ?_
        refine z_callVL (pc' := 40) (S := St) (As := [.int (jI s_), .int (jI which)]) (rest := []) X dX5_tempo_37 rfl (kX5_tempoPart l D E q σ s_ which  (hwf) (hji) (by omega)) (cwV 2 X.1.2.2.2.2 gX5_tempo_X5_tempoPart rfl rfl rfl (by decide +kernel) ⟨Nat.le_of_ble_eq_true rfl, Nat.le_of_ble_eq_true rfl⟩) 0 rfl rfl rfl rfl (Nat.le_of_ble_eq_true rfl) (fun r37 u37 hp37 => ?_)
        obtain ⟨rfl, hp37⟩ := hp37; replace hp37 := hp37.symm; subst hp37
        refine z_goto (tgt := 46) X dX5_tempo_40 (by decide) ?_
        exact z_lret (post := (fun (rv : Int) (uu : St) => σ = uu ∧ rv = fTempo (σ 1 0) (σ 0 0) (σ 4 0) (σ 5) (σ 6) (σ 7) (σ 8) s_ which)) X dX5_tempo_46 hret σ (by first | exact ⟨rfl, by unfold fTempo; rw [if_pos hp2, if_pos hp13, if_pos (pl.mp hp28), (r_red n0).1, (r_red n0).2.1]⟩ | exact ⟨rfl, by unfold fTempo; rw [if_pos hp2, if_pos hp13, if_neg (fun z => hp28 (pl.mpr z))]⟩)
      · refine z_if_eq (tgt := 43) (pc' := 34) X dX5_tempo_31 (by decide) rfl (by omega) (fun _ => ?_) (fun h => absurd h (by decide))
        refine z_ldc2 (pc' := 46) (x := -9) X dX5_tempo_43 rfl (by decide +kernel) rfl ?_
        exact z_lret (post := (fun (rv : Int) (uu : St) => σ = uu ∧ rv = fTempo (σ 1 0) (σ 0 0) (σ 4 0) (σ 5) (σ 6) (σ 7) (σ 8) s_ which)) X dX5_tempo_46 hret σ (by first | exact ⟨rfl, by unfold fTempo; rw [if_pos hp2, if_pos hp13, if_pos (pl.mp hp28), (r_red n0).1, (r_red n0).2.1]⟩ | exact ⟨rfl, by unfold fTempo; rw [if_pos hp2, if_pos hp13, if_neg (fun z => hp28 (pl.mpr z))]⟩)
    · refine z_if_ne (tgt := 23) (pc' := 19) X dX5_tempo_16 (by decide) rfl (by omega) (fun h => absurd h (by decide)) (fun _ => ?_)
      refine z_ldc2 (pc' := 22) (x := -2) X dX5_tempo_19 rfl (by decide +kernel) rfl ?_
      exact z_lret (post := (fun (rv : Int) (uu : St) => σ = uu ∧ rv = fTempo (σ 1 0) (σ 0 0) (σ 4 0) (σ 5) (σ 6) (σ 7) (σ 8) s_ which)) X dX5_tempo_22 hret σ (⟨rfl, by unfold fTempo; rw [if_pos hp2, if_neg hp13]⟩)
  · refine z_if_ne (tgt := 12) (pc' := 8) X dX5_tempo_5 (by decide) rfl (by omega) (fun h => absurd h (by decide)) (fun _ => ?_)
    refine z_ldc2 (pc' := 11) (x := -1) X dX5_tempo_8 rfl (by decide +kernel) rfl ?_
    exact z_lret (post := (fun (rv : Int) (uu : St) => σ = uu ∧ rv = fTempo (σ 1 0) (σ 0 0) (σ 4 0) (σ 5) (σ 6) (σ 7) (σ 8) s_ which)) X dX5_tempo_11 hret σ (⟨rfl, by unfold fTempo; rw [if_neg hp2]⟩)
set_option maxHeartbeats 4000000 in
set_option maxRecDepth 100000 in
theorem kX5_ratio (l : Launch) (D : va_G) (E : Nat → Nat) (q : Nat → Nat) (σ : St) (a b which : Int) (hwf : WfC σ) (hji : JI σ) (hr : (-2147483648 ≤ a ∧ a < 2147483648) ∧ (-2147483648 ≤ b ∧ b < 2147483648) ∧ (-2147483648 ≤ which ∧ which < 2147483648)) : CtL l D E yX5_ratio wsX5_ratio ({ frames := 2, cells := 0, slots := 0, locals := 49 } : Room) [.ref (q 0), .int (jI a), .int (jI b), .int (jI which)] (CW E q σ) (CW E q) (fun (rv : Int) (uu : St) => σ = uu ∧ rv = fRatio (σ 1 0) (σ 4 0) (σ 5) (σ 6) (σ 7) (σ 8) a b which) := by
  refine mk_L (cc := cX5_ratio) (maxL := 4) (ret := some .long) (by decide) rfl (Nat.le_of_ble_eq_true rfl) ?_
  intro p e s m args below meth c A X hret
  have hin5 : ∀ x ∈ u_ws RX5 TX5 6, x ∈ wsX5_ratio := fun _ h => List.mem_cons_of_mem _ (List.mem_append_left _ (List.mem_append_left _ (List.mem_append_right _ h)))
  have hin1 : ∀ x ∈ u_ws RX1 TX1 5, x ∈ wsX5_ratio := fun _ h => List.mem_cons_of_mem _ (List.mem_append_left _ (List.mem_append_right _ h))
  have hin3 : ∀ x ∈ u_ws RX3 TX3 9, x ∈ wsX5_ratio := fun _ h => List.mem_cons_of_mem _ (List.mem_append_right _ h)
  refine z_lv (lv' := [(0, .ref (q 0)), (1, .int (jI a)), (2, .int (jI b)), (3, .int (jI which))]) [0, 1, 2, 3] rfl ?_
  obtain ⟨n1, n0, n4, n16⟩ := hwf.n
  refine z_aload_n (pc' := 1) X dX5_ratio_0 rfl 0 rfl rfl ?_
  refine z_iload_n (pc' := 2) X dX5_ratio_1 rfl 1 rfl rfl ?_
  refine z_callVI (pc' := 5) (S := St) (As := [.int (jI a)]) (rest := []) X dX5_ratio_2 rfl (kX5_isSection l D E q σ a  (hwf) (by omega)) (cwV 1 X.1.2.2.2.2 gX5_ratio_X5_isSection rfl rfl rfl (by decide +kernel) ⟨Nat.le_of_ble_eq_true rfl, Nat.le_of_ble_eq_true rfl⟩) 0 rfl rfl rfl rfl (Nat.le_of_ble_eq_true rfl) (fun r2 u2 hp2 => ?_)
  obtain ⟨rfl, hp2⟩ := hp2
  rcases hp2 with ⟨rfl, hp2⟩ | ⟨rfl, hp2⟩
  · refine z_if_eq (tgt := 16) (pc' := 8) X dX5_ratio_5 (by decide) rfl (by omega) (fun h => absurd h (by decide)) (fun _ => ?_)
    refine z_aload_n (pc' := 9) X dX5_ratio_8 rfl 0 rfl rfl ?_
    refine z_iload_n (pc' := 10) X dX5_ratio_9 rfl 2 rfl rfl ?_
    refine z_callVI (pc' := 13) (S := St) (As := [.int (jI b)]) (rest := []) X dX5_ratio_10 rfl (kX5_isSection l D E q σ b  (hwf) (by omega)) (cwV 1 X.1.2.2.2.2 gX5_ratio_X5_isSection rfl rfl rfl (by decide +kernel) ⟨Nat.le_of_ble_eq_true rfl, Nat.le_of_ble_eq_true rfl⟩) 0 rfl rfl rfl rfl (Nat.le_of_ble_eq_true rfl) (fun r10 u10 hp10 => ?_)
    obtain ⟨rfl, hp10⟩ := hp10
    rcases hp10 with ⟨rfl, hp10⟩ | ⟨rfl, hp10⟩
    · refine z_if_ne (tgt := 20) (pc' := 16) X dX5_ratio_13 (by decide) rfl (by omega) (fun _ => ?_) (fun h => absurd h (by decide))
      refine z_iload_n (pc' := 21) X dX5_ratio_20 rfl 3 rfl rfl ?_
      refine z_callPI (pc' := 24) (S := Unit) (As := [.int (jI which)]) (rest := []) X dX5_ratio_21 rfl (kX5_isWhich l D E which  (by omega)) (va_cwS 1 X.1.2.2.2.2 gX5_ratio_X5_isWhich rfl rfl rfl (by decide +kernel) ⟨Nat.le_of_ble_eq_true rfl, Nat.le_of_ble_eq_true rfl⟩) rfl rfl (Nat.le_of_ble_eq_true rfl) (fun r21 u21 hp21 => ?_)
      skip
      rcases hp21 with ⟨rfl, hp21⟩ | ⟨rfl, hp21⟩
      · refine z_if_ne (tgt := 31) (pc' := 27) X dX5_ratio_24 (by decide) rfl (by omega) (fun _ => ?_) (fun h => absurd h (by decide))
        have ja := hji.g hwf (s := a) (by omega)
        have jb := hji.g hwf (s := b) (by omega)
        refine z_aload_n (pc' := 32) X dX5_ratio_31 rfl 0 rfl rfl ?_
        refine z_get (pc' := 35) (C := RX5) (ref := "PivotBeats") (T := TX5) (N := 6) (v := .ref (q 37)) X dX5_ratio_32 rfl hin5 0 rfl rfl 1 (by decide) (by decide +kernel) rfl rfl ?_
        refine z_get (pc' := 38) (C := RX1) (ref := "PivotBeats$Joins") (T := TX1) (N := 5) (v := .ref (q 10)) X dX5_ratio_35 rfl hin1 2 rfl rfl 0 (by decide) (by decide +kernel) rfl rfl ?_
        refine z_iload_n (pc' := 39) X dX5_ratio_38 rfl 1 rfl rfl ?_
        refine z_iald (pc' := 40) (f := σ 10) (n := 7) X dX5_ratio_39 rfl 13 rfl (by decide) (by omega) ?_
        refine z_aload_n (pc' := 41) X dX5_ratio_40 rfl 0 rfl rfl ?_
        refine z_get (pc' := 44) (C := RX5) (ref := "PivotBeats") (T := TX5) (N := 6) (v := .ref (q 37)) X dX5_ratio_41 rfl hin5 0 rfl rfl 1 (by decide) (by decide +kernel) rfl rfl ?_
        refine z_get (pc' := 47) (C := RX1) (ref := "PivotBeats$Joins") (T := TX1) (N := 5) (v := .ref (q 10)) X dX5_ratio_44 rfl hin1 2 rfl rfl 0 (by decide) (by decide +kernel) rfl rfl ?_
        refine z_iload_n (pc' := 48) X dX5_ratio_47 rfl 2 rfl rfl ?_
        refine z_iald (pc' := 49) (f := σ 10) (n := 7) X dX5_ratio_48 rfl 13 rfl (by decide) (by omega) ?_
        refine z_icmp_eq (tgt := 56) (pc' := 52) X dX5_ratio_49 (by decide) rfl (by omega) (fun h49 => ?_) (fun h49 => ?_)
        · refine z_lconst (pc' := 57) (x := 1) X dX5_ratio_56 rfl rfl ?_
          refine z_aload_n (pc' := 58) X dX5_ratio_57 rfl 0 rfl rfl ?_
          refine z_get (pc' := 61) (C := RX5) (ref := "PivotBeats") (T := TX5) (N := 6) (v := .ref (q 37)) X dX5_ratio_58 rfl hin5 0 rfl rfl 1 (by decide) (by decide +kernel) rfl rfl ?_
          refine z_iload_n (pc' := 62) X dX5_ratio_61 rfl 1 rfl rfl ?_
          refine z_iload_n (pc' := 63) X dX5_ratio_62 rfl 2 rfl rfl ?_
          refine z_callVI (pc' := 66) (S := St) (As := [.int (jI a), .int (jI b)]) (rest := [.long (jL 1)]) X dX5_ratio_63 rfl (kX1_twosBetween l D E q σ a b  (by omega)) (cwV 2 X.1.2.2.2.2 gX5_ratio_X1_twosBetween rfl rfl rfl (by decide +kernel) ⟨Nat.le_of_ble_eq_true rfl, Nat.le_of_ble_eq_true rfl⟩) 2 rfl rfl rfl rfl (Nat.le_of_ble_eq_true rfl) (fun r63 u63 hp63 => ?_)
          obtain ⟨rfl, hp63⟩ := hp63; replace hp63 := hp63.symm; subst hp63
          refine z_aload_n (pc' := 67) X dX5_ratio_66 rfl 0 rfl rfl ?_
          refine z_get (pc' := 70) (C := RX5) (ref := "PivotBeats") (T := TX5) (N := 6) (v := .ref (q 37)) X dX5_ratio_67 rfl hin5 0 rfl rfl 1 (by decide) (by decide +kernel) rfl rfl ?_
          refine z_iload_n (pc' := 71) X dX5_ratio_70 rfl 1 rfl rfl ?_
          refine z_iload_n (pc' := 72) X dX5_ratio_71 rfl 2 rfl rfl ?_
          refine z_callVI (pc' := 75) (S := St) (As := [.int (jI a), .int (jI b)]) (rest := [.int (jI (σ 11 b - σ 11 a)), .long (jL 1)]) X dX5_ratio_72 rfl (kX1_threesBetween l D E q σ a b  (by omega)) (cwV 2 X.1.2.2.2.2 gX5_ratio_X1_threesBetween rfl rfl rfl (by decide +kernel) ⟨Nat.le_of_ble_eq_true rfl, Nat.le_of_ble_eq_true rfl⟩) 2 rfl rfl rfl rfl (Nat.le_of_ble_eq_true rfl) (fun r72 u72 hp72 => ?_)
          obtain ⟨rfl, hp72⟩ := hp72; replace hp72 := hp72.symm; subst hp72
          refine z_iload_n (pc' := 76) X dX5_ratio_75 rfl 3 rfl rfl ?_
          refine z_callPL (pc' := 79) (S := Unit) (As := [.long (jL 1), .int (jI (σ 11 b - σ 11 a)), .int (jI (σ 12 b - σ 12 a)), .int (jI which)]) (rest := []) X dX5_ratio_76 rfl (kX5_part l D E 1 (σ 11 b - σ 11 a) (σ 12 b - σ 12 a) which  (by omega)) (va_cwS 4 X.1.2.2.2.2 gX5_ratio_X5_part rfl rfl rfl (by decide +kernel) ⟨Nat.le_of_ble_eq_true rfl, Nat.le_of_ble_eq_true rfl⟩) rfl rfl (Nat.le_of_ble_eq_true rfl) (fun r76 u76 hp76 => ?_)
          replace hp76 := hp76.symm; subst hp76
          exact z_lret (post := (fun (rv : Int) (uu : St) => σ = uu ∧ rv = fRatio (σ 1 0) (σ 4 0) (σ 5) (σ 6) (σ 7) (σ 8) a b which)) X dX5_ratio_79 hret σ (⟨rfl, by unfold fRatio eX eY; rw [if_pos (And.intro hp2 hp10), if_pos hp21, if_pos (show jS (σ 5) (σ 6) (σ 7) (σ 8) (σ 4 0).toNat 0 b = jS (σ 5) (σ 6) (σ 7) (σ 8) (σ 4 0).toNat 0 a by rw [← ja.1, ← jb.1]; omega), Int.one_mul, ja.2.1, ja.2.2.1, jb.2.1, jb.2.2.1]⟩)
        · refine z_ldc2 (pc' := 55) (x := -9) X dX5_ratio_52 rfl (by decide +kernel) rfl ?_
          exact z_lret (post := (fun (rv : Int) (uu : St) => σ = uu ∧ rv = fRatio (σ 1 0) (σ 4 0) (σ 5) (σ 6) (σ 7) (σ 8) a b which)) X dX5_ratio_55 hret σ (⟨rfl, by unfold fRatio; rw [if_pos (And.intro hp2 hp10), if_pos hp21, if_neg (show ¬ jS (σ 5) (σ 6) (σ 7) (σ 8) (σ 4 0).toNat 0 b = jS (σ 5) (σ 6) (σ 7) (σ 8) (σ 4 0).toNat 0 a by rw [← ja.1, ← jb.1]; omega)]⟩)
      · refine z_if_ne (tgt := 31) (pc' := 27) X dX5_ratio_24 (by decide) rfl (by omega) (fun h => absurd h (by decide)) (fun _ => ?_)
        refine z_ldc2 (pc' := 30) (x := -2) X dX5_ratio_27 rfl (by decide +kernel) rfl ?_
        exact z_lret (post := (fun (rv : Int) (uu : St) => σ = uu ∧ rv = fRatio (σ 1 0) (σ 4 0) (σ 5) (σ 6) (σ 7) (σ 8) a b which)) X dX5_ratio_30 hret σ (⟨rfl, by unfold fRatio; rw [if_pos (And.intro hp2 hp10), if_neg hp21]⟩)
    · refine z_if_ne (tgt := 20) (pc' := 16) X dX5_ratio_13 (by decide) rfl (by omega) (fun h => absurd h (by decide)) (fun _ => ?_)
      refine z_ldc2 (pc' := 19) (x := -1) X dX5_ratio_16 rfl (by decide +kernel) rfl ?_
      exact z_lret (post := (fun (rv : Int) (uu : St) => σ = uu ∧ rv = fRatio (σ 1 0) (σ 4 0) (σ 5) (σ 6) (σ 7) (σ 8) a b which)) X dX5_ratio_19 hret σ (⟨rfl, by unfold fRatio; rw [if_neg (by omega)]⟩)
  · refine z_if_eq (tgt := 16) (pc' := 8) X dX5_ratio_5 (by decide) rfl (by omega) (fun _ => ?_) (fun h => absurd h (by decide))
    refine z_ldc2 (pc' := 19) (x := -1) X dX5_ratio_16 rfl (by decide +kernel) rfl ?_
    exact z_lret (post := (fun (rv : Int) (uu : St) => σ = uu ∧ rv = fRatio (σ 1 0) (σ 4 0) (σ 5) (σ 6) (σ 7) (σ 8) a b which)) X dX5_ratio_19 hret σ (⟨rfl, by unfold fRatio; rw [if_neg (by omega)]⟩)
set_option maxHeartbeats 4000000 in
set_option maxRecDepth 100000 in
theorem kX5_off (l : Launch) (D : va_G) (E : Nat → Nat) (q : Nat → Nat) (σ : St) (k which : Int) (hwf : WfC σ) (hji : JI σ) (hr : (-2147483648 ≤ k ∧ k < 2147483648) ∧ (-2147483648 ≤ which ∧ which < 2147483648)) : CtL l D E yX5_off wsX5_off ({ frames := 2, cells := 0, slots := 0, locals := 49 } : Room) [.ref (q 0), .int (jI k), .int (jI which)] (CW E q σ) (CW E q) (fun (rv : Int) (uu : St) => σ = uu ∧ rv = fOff (σ 4 0) (σ 5) (σ 6) (σ 7) (σ 8) k which) := by
  refine mk_L (cc := cX5_off) (maxL := 5) (ret := some .long) (by decide) rfl (Nat.le_of_ble_eq_true rfl) ?_
  intro p e s m args below meth c A X hret
  have hin5 : ∀ x ∈ u_ws RX5 TX5 6, x ∈ wsX5_off := fun _ h => List.mem_cons_of_mem _ (List.mem_append_left _ (List.mem_append_left _ (List.mem_append_right _ h)))
  have hin1 : ∀ x ∈ u_ws RX1 TX1 5, x ∈ wsX5_off := fun _ h => List.mem_cons_of_mem _ (List.mem_append_left _ (List.mem_append_right _ h))
  have hin3 : ∀ x ∈ u_ws RX3 TX3 9, x ∈ wsX5_off := fun _ h => List.mem_cons_of_mem _ (List.mem_append_right _ h)
  refine z_lv (lv' := [(0, .ref (q 0)), (1, .int (jI k)), (2, .int (jI which))]) [0, 1, 2] rfl ?_
  obtain ⟨n1, n0, n4, n16⟩ := hwf.n
  refine z_aload_n (pc' := 1) X dX5_off_0 rfl 0 rfl rfl ?_
  refine z_iload_n (pc' := 2) X dX5_off_1 rfl 1 rfl rfl ?_
  refine z_callVI (pc' := 5) (S := St) (As := [.int (jI k)]) (rest := []) X dX5_off_2 rfl (kX5_isTie l D E q σ k  (hwf) (by omega)) (cwV 1 X.1.2.2.2.2 gX5_off_X5_isTie rfl rfl rfl (by decide +kernel) ⟨Nat.le_of_ble_eq_true rfl, Nat.le_of_ble_eq_true rfl⟩) 0 rfl rfl rfl rfl (Nat.le_of_ble_eq_true rfl) (fun r2 u2 hp2 => ?_)
  obtain ⟨rfl, hp2⟩ := hp2
  rcases hp2 with ⟨rfl, hp2⟩ | ⟨rfl, hp2⟩
  · refine z_if_ne (tgt := 12) (pc' := 8) X dX5_off_5 (by decide) rfl (by omega) (fun _ => ?_) (fun h => absurd h (by decide))
    refine z_iload_n (pc' := 13) X dX5_off_12 rfl 2 rfl rfl ?_
    refine z_callPI (pc' := 16) (S := Unit) (As := [.int (jI which)]) (rest := []) X dX5_off_13 rfl (kX5_isWhich l D E which  (by omega)) (va_cwS 1 X.1.2.2.2.2 gX5_off_X5_isWhich rfl rfl rfl (by decide +kernel) ⟨Nat.le_of_ble_eq_true rfl, Nat.le_of_ble_eq_true rfl⟩) rfl rfl (Nat.le_of_ble_eq_true rfl) (fun r13 u13 hp13 => ?_)
    skip
    rcases hp13 with ⟨rfl, hp13⟩ | ⟨rfl, hp13⟩
    · refine z_if_ne (tgt := 23) (pc' := 19) X dX5_off_16 (by decide) rfl (by omega) (fun _ => ?_) (fun h => absurd h (by decide))
      have jk := hji.k hp2
      have ht := hwf.tie hp2.1 hp2.2
      have ja := hji.g hwf (s := σ 5 k) (by omega)
      have jb := hji.g hwf (s := σ 7 k) (by omega)
      have t1 := tw_rng ht.2.1
      have t2 := tw_rng ht.2.2.2.1
      refine z_aload_n (pc' := 24) X dX5_off_23 rfl 0 rfl rfl ?_
      refine z_get (pc' := 27) (C := RX5) (ref := "PivotBeats") (T := TX5) (N := 6) (v := .ref (q 37)) X dX5_off_24 rfl hin5 0 rfl rfl 1 (by decide) (by decide +kernel) rfl rfl ?_
      refine z_get (pc' := 30) (C := RX1) (ref := "PivotBeats$Joins") (T := TX1) (N := 5) (v := .ref (q 14)) X dX5_off_27 rfl hin1 2 rfl rfl 4 (by decide) (by decide +kernel) rfl rfl ?_
      refine z_iload_n (pc' := 31) X dX5_off_30 rfl 1 rfl rfl ?_
      refine z_iald (pc' := 32) (f := σ 14) (n := 12) X dX5_off_31 rfl 17 rfl (by decide) (by omega) ?_
      refine z_if_ne (tgt := 39) (pc' := 35) X dX5_off_32 (by decide) rfl (by omega) (fun h32 => ?_) (fun h32 => ?_)
      · refine z_aload_n (pc' := 40) X dX5_off_39 rfl 0 rfl rfl ?_
        refine z_get (pc' := 43) (C := RX5) (ref := "PivotBeats") (T := TX5) (N := 6) (v := .ref (q 37)) X dX5_off_40 rfl hin5 0 rfl rfl 1 (by decide) (by decide +kernel) rfl rfl ?_
        refine z_aload_n (pc' := 44) X dX5_off_43 rfl 0 rfl rfl ?_
        refine z_get (pc' := 47) (C := RX5) (ref := "PivotBeats") (T := TX5) (N := 6) (v := .ref (q 36)) X dX5_off_44 rfl hin5 0 rfl rfl 0 (by decide) (by decide +kernel) rfl rfl ?_
        refine z_get (pc' := 50) (C := RX3) (ref := "PivotBeats$Piece") (T := TX3) (N := 9) (v := .ref (q 5)) X dX5_off_47 rfl hin3 1 rfl rfl 4 (by decide) (by decide +kernel) rfl rfl ?_
        refine z_iload_n (pc' := 51) X dX5_off_50 rfl 1 rfl rfl ?_
        refine z_iald (pc' := 52) (f := σ 5) (n := 12) X dX5_off_51 rfl 8 rfl (by decide) (by omega) ?_
        refine z_aload_n (pc' := 53) X dX5_off_52 rfl 0 rfl rfl ?_
        refine z_get (pc' := 56) (C := RX5) (ref := "PivotBeats") (T := TX5) (N := 6) (v := .ref (q 36)) X dX5_off_53 rfl hin5 0 rfl rfl 0 (by decide) (by decide +kernel) rfl rfl ?_
        refine z_get (pc' := 59) (C := RX3) (ref := "PivotBeats$Piece") (T := TX3) (N := 9) (v := .ref (q 7)) X dX5_off_56 rfl hin3 1 rfl rfl 6 (by decide) (by decide +kernel) rfl rfl ?_
        refine z_iload_n (pc' := 60) X dX5_off_59 rfl 1 rfl rfl ?_
        refine z_iald (pc' := 61) (f := σ 7) (n := 12) X dX5_off_60 rfl 10 rfl (by decide) (by omega) ?_
        refine z_callVI (pc' := 64) (S := St) (As := [.int (jI (σ 5 k)), .int (jI (σ 7 k))]) (rest := []) X dX5_off_61 rfl (kX1_twosBetween l D E q σ (σ 5 k) (σ 7 k)  (by omega)) (cwV 2 X.1.2.2.2.2 gX5_off_X1_twosBetween rfl rfl rfl (by decide +kernel) ⟨Nat.le_of_ble_eq_true rfl, Nat.le_of_ble_eq_true rfl⟩) 2 rfl rfl rfl rfl (Nat.le_of_ble_eq_true rfl) (fun r61 u61 hp61 => ?_)
        obtain ⟨rfl, hp61⟩ := hp61; replace hp61 := hp61.symm; subst hp61
        refine z_aload_n (pc' := 65) X dX5_off_64 rfl 0 rfl rfl ?_
        refine z_get (pc' := 68) (C := RX5) (ref := "PivotBeats") (T := TX5) (N := 6) (v := .ref (q 36)) X dX5_off_65 rfl hin5 0 rfl rfl 0 (by decide) (by decide +kernel) rfl rfl ?_
        refine z_iload_n (pc' := 69) X dX5_off_68 rfl 1 rfl rfl ?_
        refine z_callVI (pc' := 72) (S := St) (As := [.int (jI k)]) (rest := [.int (jI (σ 11 (σ 7 k) - σ 11 (σ 5 k)))]) X dX5_off_69 rfl (kX3_twosOfTie l D E q σ k  (hwf) (by omega)) (cwV 1 X.1.2.2.2.2 gX5_off_X3_twosOfTie rfl rfl rfl (by decide +kernel) ⟨Nat.le_of_ble_eq_true rfl, Nat.le_of_ble_eq_true rfl⟩) 1 rfl rfl rfl rfl (Nat.le_of_ble_eq_true rfl) (fun r69 u69 hp69 => ?_)
        obtain ⟨rfl, hp69⟩ := hp69; replace hp69 := hp69.symm; subst hp69
        refine z_isub (pc' := 73) X dX5_off_72 rfl ?_
        refine z_istore_n (pc' := 74) (lv' := [(3, .int (jI ((σ 11 (σ 7 k) - σ 11 (σ 5 k)) - (tw (σ 8 k) - tw (σ 6 k))))), (0, .ref (q 0)), (1, .int (jI k)), (2, .int (jI which))]) X dX5_off_73 rfl rfl (by decide) rfl ?_
        refine z_aload_n (pc' := 75) X dX5_off_74 rfl 1 rfl rfl ?_
        refine z_get (pc' := 78) (C := RX5) (ref := "PivotBeats") (T := TX5) (N := 6) (v := .ref (q 37)) X dX5_off_75 rfl hin5 0 rfl rfl 1 (by decide) (by decide +kernel) rfl rfl ?_
        refine z_aload_n (pc' := 79) X dX5_off_78 rfl 1 rfl rfl ?_
        refine z_get (pc' := 82) (C := RX5) (ref := "PivotBeats") (T := TX5) (N := 6) (v := .ref (q 36)) X dX5_off_79 rfl hin5 0 rfl rfl 0 (by decide) (by decide +kernel) rfl rfl ?_
        refine z_get (pc' := 85) (C := RX3) (ref := "PivotBeats$Piece") (T := TX3) (N := 9) (v := .ref (q 5)) X dX5_off_82 rfl hin3 1 rfl rfl 4 (by decide) (by decide +kernel) rfl rfl ?_
        refine z_iload_n (pc' := 86) X dX5_off_85 rfl 2 rfl rfl ?_
        refine z_iald (pc' := 87) (f := σ 5) (n := 12) X dX5_off_86 rfl 8 rfl (by decide) (by omega) ?_
        refine z_aload_n (pc' := 88) X dX5_off_87 rfl 1 rfl rfl ?_
        refine z_get (pc' := 91) (C := RX5) (ref := "PivotBeats") (T := TX5) (N := 6) (v := .ref (q 36)) X dX5_off_88 rfl hin5 0 rfl rfl 0 (by decide) (by decide +kernel) rfl rfl ?_
        refine z_get (pc' := 94) (C := RX3) (ref := "PivotBeats$Piece") (T := TX3) (N := 9) (v := .ref (q 7)) X dX5_off_91 rfl hin3 1 rfl rfl 6 (by decide) (by decide +kernel) rfl rfl ?_
        refine z_iload_n (pc' := 95) X dX5_off_94 rfl 2 rfl rfl ?_
        refine z_iald (pc' := 96) (f := σ 7) (n := 12) X dX5_off_95 rfl 10 rfl (by decide) (by omega) ?_
        refine z_callVI (pc' := 99) (S := St) (As := [.int (jI (σ 5 k)), .int (jI (σ 7 k))]) (rest := []) X dX5_off_96 rfl (kX1_threesBetween l D E q σ (σ 5 k) (σ 7 k)  (by omega)) (cwV 2 X.1.2.2.2.2 gX5_off_X1_threesBetween rfl rfl rfl (by decide +kernel) ⟨Nat.le_of_ble_eq_true rfl, Nat.le_of_ble_eq_true rfl⟩) 2 rfl rfl rfl rfl (Nat.le_of_ble_eq_true rfl) (fun r96 u96 hp96 => ?_)
        obtain ⟨rfl, hp96⟩ := hp96; replace hp96 := hp96.symm; subst hp96
        refine z_aload_n (pc' := 100) X dX5_off_99 rfl 1 rfl rfl ?_
        refine z_get (pc' := 103) (C := RX5) (ref := "PivotBeats") (T := TX5) (N := 6) (v := .ref (q 36)) X dX5_off_100 rfl hin5 0 rfl rfl 0 (by decide) (by decide +kernel) rfl rfl ?_
        refine z_iload_n (pc' := 104) X dX5_off_103 rfl 2 rfl rfl ?_
        refine z_callVI (pc' := 107) (S := St) (As := [.int (jI k)]) (rest := [.int (jI (σ 12 (σ 7 k) - σ 12 (σ 5 k)))]) X dX5_off_104 rfl (kX3_threesOfTie l D E q σ k  (hwf) (by omega)) (cwV 1 X.1.2.2.2.2 gX5_off_X3_threesOfTie rfl rfl rfl (by decide +kernel) ⟨Nat.le_of_ble_eq_true rfl, Nat.le_of_ble_eq_true rfl⟩) 1 rfl rfl rfl rfl (Nat.le_of_ble_eq_true rfl) (fun r104 u104 hp104 => ?_)
        obtain ⟨rfl, hp104⟩ := hp104; replace hp104 := hp104.symm; subst hp104
        refine z_isub (pc' := 108) X dX5_off_107 rfl ?_
        refine z_istore (pc' := 110) (lv' := [(4, .int (jI ((σ 12 (σ 7 k) - σ 12 (σ 5 k)) - (th (σ 8 k) - th (σ 6 k))))), (3, .int (jI ((σ 11 (σ 7 k) - σ 11 (σ 5 k)) - (tw (σ 8 k) - tw (σ 6 k))))), (0, .ref (q 0)), (1, .int (jI k)), (2, .int (jI which))]) X dX5_off_108 rfl (by decide) rfl ?_
        refine z_lconst (pc' := 111) (x := 1) X dX5_off_110 rfl rfl ?_
        refine z_iload_n (pc' := 112) X dX5_off_111 rfl 1 rfl rfl ?_
        refine z_iload (pc' := 114) X dX5_off_112 rfl 0 rfl ?_
        refine z_iload_n (pc' := 115) X dX5_off_114 rfl 4 rfl rfl ?_
        refine z_callPL (pc' := 118) (S := Unit) (As := [.long (jL 1), .int (jI ((σ 11 (σ 7 k) - σ 11 (σ 5 k)) - (tw (σ 8 k) - tw (σ 6 k)))), .int (jI ((σ 12 (σ 7 k) - σ 12 (σ 5 k)) - (th (σ 8 k) - th (σ 6 k)))), .int (jI which)]) (rest := []) X dX5_off_115 rfl (kX5_part l D E 1 ((σ 11 (σ 7 k) - σ 11 (σ 5 k)) - (tw (σ 8 k) - tw (σ 6 k))) ((σ 12 (σ 7 k) - σ 12 (σ 5 k)) - (th (σ 8 k) - th (σ 6 k))) which  (by omega)) (va_cwS 4 X.1.2.2.2.2 gX5_off_X5_part rfl rfl rfl (by decide +kernel) ⟨Nat.le_of_ble_eq_true rfl, Nat.le_of_ble_eq_true rfl⟩) rfl rfl (Nat.le_of_ble_eq_true rfl) (fun r115 u115 hp115 => ?_)
        replace hp115 := hp115.symm; subst hp115
        exact z_lret (post := (fun (rv : Int) (uu : St) => σ = uu ∧ rv = fOff (σ 4 0) (σ 5) (σ 6) (σ 7) (σ 8) k which)) X dX5_off_118 hret σ (⟨rfl, by unfold fOff eX eY; rw [if_pos hp2, if_pos hp13, if_neg (show ¬ jK (σ 5) (σ 6) (σ 7) (σ 8) k.toNat = 0 by rw [← jk.1]; exact h32), Int.one_mul, ja.2.1, ja.2.2.1, jb.2.1, jb.2.2.1]⟩)
      · refine z_ldc2 (pc' := 38) (x := -9) X dX5_off_35 rfl (by decide +kernel) rfl ?_
        exact z_lret (post := (fun (rv : Int) (uu : St) => σ = uu ∧ rv = fOff (σ 4 0) (σ 5) (σ 6) (σ 7) (σ 8) k which)) X dX5_off_38 hret σ (⟨rfl, by unfold fOff; rw [if_pos hp2, if_pos hp13, if_pos (show jK (σ 5) (σ 6) (σ 7) (σ 8) k.toNat = 0 by rw [← jk.1]; exact h32)]⟩)
    · refine z_if_ne (tgt := 23) (pc' := 19) X dX5_off_16 (by decide) rfl (by omega) (fun h => absurd h (by decide)) (fun _ => ?_)
      refine z_ldc2 (pc' := 22) (x := -2) X dX5_off_19 rfl (by decide +kernel) rfl ?_
      exact z_lret (post := (fun (rv : Int) (uu : St) => σ = uu ∧ rv = fOff (σ 4 0) (σ 5) (σ 6) (σ 7) (σ 8) k which)) X dX5_off_22 hret σ (⟨rfl, by unfold fOff; rw [if_pos hp2, if_neg hp13]⟩)
  · refine z_if_ne (tgt := 12) (pc' := 8) X dX5_off_5 (by decide) rfl (by omega) (fun h => absurd h (by decide)) (fun _ => ?_)
    refine z_ldc2 (pc' := 11) (x := -1) X dX5_off_8 rfl (by decide +kernel) rfl ?_
    exact z_lret (post := (fun (rv : Int) (uu : St) => σ = uu ∧ rv = fOff (σ 4 0) (σ 5) (σ 6) (σ 7) (σ 8) k which)) X dX5_off_11 hret σ (⟨rfl, by unfold fOff; rw [if_neg hp2]⟩)
set_option maxHeartbeats 4000000 in
set_option maxRecDepth 100000 in
theorem kX5_ring (l : Launch) (D : va_G) (E : Nat → Nat) (q : Nat → Nat) (σ : St) (k : Int) (hwf : WfC σ) (hji : JI σ) (hr : (-2147483648 ≤ k ∧ k < 2147483648)) : CtI l D E yX5_ring wsX5_ring ({ frames := 1, cells := 0, slots := 0, locals := 22 } : Room) [.ref (q 0), .int (jI k)] (CW E q σ) (CW E q) (fun (rv : Int) (uu : St) => σ = uu ∧ rv = fRing (σ 4 0) (σ 5) (σ 6) (σ 7) (σ 8) k) := by
  refine mk_I (cc := cX5_ring) (maxL := 2) (ret := some .int) (by decide) rfl (Nat.le_of_ble_eq_true rfl) ?_
  intro p e s m args below meth c A X hret
  have hin5 : ∀ x ∈ u_ws RX5 TX5 6, x ∈ wsX5_ring := fun _ h => List.mem_cons_of_mem _ (List.mem_append_left _ (List.mem_append_left _ (List.mem_append_right _ h)))
  have hin1 : ∀ x ∈ u_ws RX1 TX1 5, x ∈ wsX5_ring := fun _ h => List.mem_cons_of_mem _ (List.mem_append_left _ (List.mem_append_right _ h))
  have hin3 : ∀ x ∈ u_ws RX3 TX3 9, x ∈ wsX5_ring := fun _ h => List.mem_cons_of_mem _ (List.mem_append_right _ h)
  refine z_lv (lv' := [(0, .ref (q 0)), (1, .int (jI k))]) [0, 1] rfl ?_
  obtain ⟨n1, n0, n4, n16⟩ := hwf.n
  refine z_aload_n (pc' := 1) X dX5_ring_0 rfl 0 rfl rfl ?_
  refine z_iload_n (pc' := 2) X dX5_ring_1 rfl 1 rfl rfl ?_
  refine z_callVI (pc' := 5) (S := St) (As := [.int (jI k)]) (rest := []) X dX5_ring_2 rfl (kX5_isTie l D E q σ k  (hwf) (by omega)) (cwV 1 X.1.2.2.2.2 gX5_ring_X5_isTie rfl rfl rfl (by decide +kernel) ⟨Nat.le_of_ble_eq_true rfl, Nat.le_of_ble_eq_true rfl⟩) 0 rfl rfl rfl rfl (Nat.le_of_ble_eq_true rfl) (fun r2 u2 hp2 => ?_)
  obtain ⟨rfl, hp2⟩ := hp2
  rcases hp2 with ⟨rfl, hp2⟩ | ⟨rfl, hp2⟩
  · refine z_if_ne (tgt := 10) (pc' := 8) X dX5_ring_5 (by decide) rfl (by omega) (fun _ => ?_) (fun h => absurd h (by decide))
    have jk := hji.k hp2
    have ht := hwf.tie hp2.1 hp2.2
    have ja := hji.g hwf (s := σ 5 k) (by omega)
    have jb := hji.g hwf (s := σ 7 k) (by omega)
    have hs1 := iShl1_rng (k := k) (by omega)
    have rx := iXor_lt (n := 12) (show σ 13 (σ 5 k) < 2 ^ 12 by omega) (show σ 13 (σ 7 k) < 2 ^ 12 by omega)
    have rx0 := iXor_nn (σ 13 (σ 5 k)) (σ 13 (σ 7 k))
    refine z_aload_n (pc' := 11) X dX5_ring_10 rfl 0 rfl rfl ?_
    refine z_get (pc' := 14) (C := RX5) (ref := "PivotBeats") (T := TX5) (N := 6) (v := .ref (q 37)) X dX5_ring_11 rfl hin5 0 rfl rfl 1 (by decide) (by decide +kernel) rfl rfl ?_
    refine z_get (pc' := 17) (C := RX1) (ref := "PivotBeats$Joins") (T := TX1) (N := 5) (v := .ref (q 14)) X dX5_ring_14 rfl hin1 2 rfl rfl 4 (by decide) (by decide +kernel) rfl rfl ?_
    refine z_iload_n (pc' := 18) X dX5_ring_17 rfl 1 rfl rfl ?_
    refine z_iald (pc' := 19) (f := σ 14) (n := 12) X dX5_ring_18 rfl 17 rfl (by decide) (by omega) ?_
    refine z_if_ne (tgt := 25) (pc' := 22) X dX5_ring_19 (by decide) rfl (by omega) (fun h19 => ?_) (fun h19 => ?_)
    · refine z_aload_n (pc' := 26) X dX5_ring_25 rfl 0 rfl rfl ?_
      refine z_get (pc' := 29) (C := RX5) (ref := "PivotBeats") (T := TX5) (N := 6) (v := .ref (q 37)) X dX5_ring_26 rfl hin5 0 rfl rfl 1 (by decide) (by decide +kernel) rfl rfl ?_
      refine z_aload_n (pc' := 30) X dX5_ring_29 rfl 0 rfl rfl ?_
      refine z_get (pc' := 33) (C := RX5) (ref := "PivotBeats") (T := TX5) (N := 6) (v := .ref (q 36)) X dX5_ring_30 rfl hin5 0 rfl rfl 0 (by decide) (by decide +kernel) rfl rfl ?_
      refine z_get (pc' := 36) (C := RX3) (ref := "PivotBeats$Piece") (T := TX3) (N := 9) (v := .ref (q 5)) X dX5_ring_33 rfl hin3 1 rfl rfl 4 (by decide) (by decide +kernel) rfl rfl ?_
      refine z_iload_n (pc' := 37) X dX5_ring_36 rfl 1 rfl rfl ?_
      refine z_iald (pc' := 38) (f := σ 5) (n := 12) X dX5_ring_37 rfl 8 rfl (by decide) (by omega) ?_
      refine z_aload_n (pc' := 39) X dX5_ring_38 rfl 0 rfl rfl ?_
      refine z_get (pc' := 42) (C := RX5) (ref := "PivotBeats") (T := TX5) (N := 6) (v := .ref (q 36)) X dX5_ring_39 rfl hin5 0 rfl rfl 0 (by decide) (by decide +kernel) rfl rfl ?_
      refine z_get (pc' := 45) (C := RX3) (ref := "PivotBeats$Piece") (T := TX3) (N := 9) (v := .ref (q 7)) X dX5_ring_42 rfl hin3 1 rfl rfl 6 (by decide) (by decide +kernel) rfl rfl ?_
      refine z_iload_n (pc' := 46) X dX5_ring_45 rfl 1 rfl rfl ?_
      refine z_iald (pc' := 47) (f := σ 7) (n := 12) X dX5_ring_46 rfl 10 rfl (by decide) (by omega) ?_
      refine z_callVI (pc' := 50) (S := St) (As := [.int (jI (σ 5 k)), .int (jI (σ 7 k))]) (rest := []) X dX5_ring_47 rfl (kX1_routeBetween l D E q σ (σ 5 k) (σ 7 k)  (by omega) (by omega)) (cwV 2 X.1.2.2.2.2 gX5_ring_X1_routeBetween rfl rfl rfl (by decide +kernel) ⟨Nat.le_of_ble_eq_true rfl, Nat.le_of_ble_eq_true rfl⟩) 2 rfl rfl rfl rfl (Nat.le_of_ble_eq_true rfl) (fun r47 u47 hp47 => ?_)
      obtain ⟨rfl, hp47⟩ := hp47; replace hp47 := hp47.symm; subst hp47
      refine z_iconst (pc' := 51) X dX5_ring_50 rfl ?_
      refine z_iload_n (pc' := 52) X dX5_ring_51 rfl 1 rfl rfl ?_
      refine z_ishl (pc' := 53) X dX5_ring_52 rfl (by omega) ?_
      refine z_ior (pc' := 54) X dX5_ring_53 rfl (by omega) ?_
      exact z_iret (post := (fun (rv : Int) (uu : St) => σ = uu ∧ rv = fRing (σ 4 0) (σ 5) (σ 6) (σ 7) (σ 8) k)) X dX5_ring_54 hret σ (⟨rfl, by unfold fRing; rw [if_pos hp2, if_neg (show ¬ jK (σ 5) (σ 6) (σ 7) (σ 8) k.toNat = 0 by rw [← jk.1]; exact h19), ja.2.2.2.1, jb.2.2.2.1]⟩)
    · refine z_bipush (pc' := 24) X dX5_ring_22 rfl rfl ?_
      exact z_iret (post := (fun (rv : Int) (uu : St) => σ = uu ∧ rv = fRing (σ 4 0) (σ 5) (σ 6) (σ 7) (σ 8) k)) X dX5_ring_24 hret σ (⟨rfl, by unfold fRing; rw [if_pos hp2, if_pos (show jK (σ 5) (σ 6) (σ 7) (σ 8) k.toNat = 0 by rw [← jk.1]; exact h19)]⟩)
  · refine z_if_ne (tgt := 10) (pc' := 8) X dX5_ring_5 (by decide) rfl (by omega) (fun h => absurd h (by decide)) (fun _ => ?_)
    refine z_iconst (pc' := 9) X dX5_ring_8 rfl ?_
    exact z_iret (post := (fun (rv : Int) (uu : St) => σ = uu ∧ rv = fRing (σ 4 0) (σ 5) (σ 6) (σ 7) (σ 8) k)) X dX5_ring_9 hret σ (⟨rfl, by unfold fRing; rw [if_neg hp2]⟩)
set_option maxHeartbeats 4000000 in
set_option maxRecDepth 100000 in
theorem kX5_mark (l : Launch) (D : va_G) (E : Nat → Nat) (q : Nat → Nat) (σ : St) (m_ is : Int) (hwf : WfC σ) (hr : (-2147483648 ≤ m_ ∧ m_ < 2147483648) ∧ (0 ≤ is ∧ is ≤ 1)) : CtI l D E yX5_mark wsX5_mark ({ frames := 2, cells := 0, slots := 0, locals := 45 } : Room) [.ref (q 0), .int (jI m_), .int (jI is)] (CW E q σ) (CW E q) (fun (rv : Int) (uu : St) => ((¬ (20 ≤ m_ ∧ m_ ≤ 400) ∧ rv = -2 ∧ uu = σ) ∨ ((20 ≤ m_ ∧ m_ ≤ 400) ∧ ((is = 1 ∧ ¬ ixF (σ 15) m_ (σ 16 0).toNat = -9) ∨ (is = 0 ∧ ixF (σ 15) m_ (σ 16 0).toNat = -9)) ∧ rv = 0 ∧ uu = σ) ∨ ((20 ≤ m_ ∧ m_ ≤ 400) ∧ is = 1 ∧ ixF (σ 15) m_ (σ 16 0).toNat = -9 ∧ σ 16 0 = 16 ∧ rv = -4 ∧ uu = σ) ∨ ((20 ≤ m_ ∧ m_ ≤ 400) ∧ is = 1 ∧ ixF (σ 15) m_ (σ 16 0).toNat = -9 ∧ ¬ σ 16 0 = 16 ∧ rv = 1 ∧ (∀ F, F ≠ 15 → F ≠ 16 → F ≠ 19 → uu F = σ F) ∧ uu 19 0 = 0 ∧ WfC uu ∧ uu 16 0 = σ 16 0 + 1 ∧ uu 15 = insM (σ 15) m_ (σ 16 0)) ∨ ((20 ≤ m_ ∧ m_ ≤ 400) ∧ is = 0 ∧ ¬ ixF (σ 15) m_ (σ 16 0).toNat = -9 ∧ rv = 1 ∧ (∀ F, F ≠ 15 → F ≠ 16 → F ≠ 19 → uu F = σ F) ∧ uu 19 0 = 0 ∧ WfC uu ∧ uu 16 0 = σ 16 0 - 1 ∧ uu 15 = delM (σ 15) (ixF (σ 15) m_ (σ 16 0).toNat) (σ 16 0)))) := by
  refine mk_I (cc := cX5_mark) (maxL := 3) (ret := some .int) (by decide) rfl (Nat.le_of_ble_eq_true rfl) ?_
  intro p e s m args below meth c A X hret
  have hin5 : ∀ x ∈ u_ws RX5 TX5 6, x ∈ wsX5_mark := fun _ h => List.mem_cons_of_mem _ (List.mem_append_left _ (List.mem_append_left _ (List.mem_append_right _ h)))
  have hin2 : ∀ x ∈ u_ws RX2 TX2 2, x ∈ wsX5_mark := fun _ h => List.mem_cons_of_mem _ (List.mem_append_left _ (List.mem_append_right _ h))
  have hin0 : ∀ x ∈ u_ws RX0 TX0 9, x ∈ wsX5_mark := fun _ h => List.mem_cons_of_mem _ (List.mem_append_right _ h)
  refine z_lv (lv' := [(0, .ref (q 0)), (1, .int (jI m_)), (2, .int (jI is))]) [0, 1, 2] rfl ?_
  obtain ⟨n1, n0, n4, n16⟩ := hwf.n
  have hi := ixF_cases (σ 15) m_ (σ 16 0).toNat
  refine z_iload_n (pc' := 1) X dX5_mark_0 rfl 1 rfl rfl ?_
  refine z_callPI (pc' := 4) (S := Unit) (As := [.int (jI m_)]) (rest := []) X dX5_mark_1 rfl (kX5_isWholeTempo l D E m_  (by omega)) (va_cwS 1 X.1.2.2.2.2 gX5_mark_X5_isWholeTempo rfl rfl rfl (by decide +kernel) ⟨Nat.le_of_ble_eq_true rfl, Nat.le_of_ble_eq_true rfl⟩) rfl rfl (Nat.le_of_ble_eq_true rfl) (fun r1 u1 hp1 => ?_)
  skip
  rcases hp1 with ⟨rfl, hp1⟩ | ⟨rfl, hp1⟩
  · refine z_if_ne (tgt := 10) (pc' := 7) X dX5_mark_4 (by decide) rfl (by omega) (fun _ => ?_) (fun h => absurd h (by decide))
    refine z_aload_n (pc' := 11) X dX5_mark_10 rfl 0 rfl rfl ?_
    refine z_get (pc' := 14) (C := RX5) (ref := "PivotBeats") (T := TX5) (N := 6) (v := .ref (q 38)) X dX5_mark_11 rfl hin5 0 rfl rfl 2 (by decide) (by decide +kernel) rfl rfl ?_
    refine z_iload_n (pc' := 15) X dX5_mark_14 rfl 1 rfl rfl ?_
    refine z_callVI (pc' := 18) (S := St) (As := [.int (jI m_)]) (rest := []) X dX5_mark_15 rfl (kX2_has l D E q σ m_  (hwf) (by omega)) (cwV 1 X.1.2.2.2.2 gX5_mark_X2_has rfl rfl rfl (by decide +kernel) ⟨Nat.le_of_ble_eq_true rfl, Nat.le_of_ble_eq_true rfl⟩) 3 rfl rfl rfl rfl (Nat.le_of_ble_eq_true rfl) (fun r15 u15 hp15 => ?_)
    obtain ⟨rfl, hp15⟩ := hp15
    rcases hp15 with ⟨rfl, hp15⟩ | ⟨rfl, hp15⟩
    · refine z_iload_n (pc' := 19) X dX5_mark_18 rfl 2 rfl rfl ?_
      refine z_icmp_ne (tgt := 24) (pc' := 22) X dX5_mark_19 (by decide) rfl (by omega) (fun h19 => ?_) (fun h19 => ?_)
      · refine z_iload_n (pc' := 25) X dX5_mark_24 rfl 2 rfl rfl ?_
        refine z_if_eq (tgt := 43) (pc' := 28) X dX5_mark_25 (by decide) rfl (by omega) (fun h25 => ?_) (fun h25 => by exfalso; omega)
        refine z_iload_n (pc' := 44) X dX5_mark_43 rfl 2 rfl rfl ?_
        refine z_if_eq (tgt := 58) (pc' := 47) X dX5_mark_44 (by decide) rfl (by omega) (fun h44 => ?_) (fun h44 => by exfalso; omega)
        refine z_aload_n (pc' := 59) X dX5_mark_58 rfl 0 rfl rfl ?_
        refine z_get (pc' := 62) (C := RX5) (ref := "PivotBeats") (T := TX5) (N := 6) (v := .ref (q 38)) X dX5_mark_59 rfl hin5 0 rfl rfl 2 (by decide) (by decide +kernel) rfl rfl ?_
        refine z_iload_n (pc' := 63) X dX5_mark_62 rfl 1 rfl rfl ?_
        refine z_callVV (pc' := 66) (S := St) (As := [.int (jI m_)]) (rest := []) X dX5_mark_63 rfl (kX2_take l D E q σ m_  (hwf) (by omega) (hp15)) (cwV 1 X.1.2.2.2.2 gX5_mark_X2_take rfl rfl rfl (by decide +kernel) ⟨Nat.le_of_ble_eq_true rfl, Nat.le_of_ble_eq_true rfl⟩) 3 rfl rfl rfl rfl (Nat.le_of_ble_eq_true rfl) (fun u63 hp63 => ?_)
        obtain ⟨hn63, h1663, h1563⟩ := hp63
        refine z_aload_n (pc' := 67) X dX5_mark_66 rfl 0 rfl rfl ?_
        refine z_get (pc' := 70) (C := RX5) (ref := "PivotBeats") (T := TX5) (N := 6) (v := .ref (q 39)) X dX5_mark_67 rfl hin5 0 rfl rfl 3 (by decide) (by decide +kernel) rfl rfl ?_
        refine z_callVV (pc' := 73) (S := St) (As := []) (rest := []) X dX5_mark_70 rfl (kX0_forget l D E q u63   ) (cwV 0 X.1.2.2.2.2 gX5_mark_X0_forget rfl rfl rfl (by decide +kernel) ⟨Nat.le_of_ble_eq_true rfl, Nat.le_of_ble_eq_true rfl⟩) 4 rfl rfl rfl rfl (Nat.le_of_ble_eq_true rfl) (fun u70 hp70 => ?_)
        refine z_iconst (pc' := 74) X dX5_mark_73 rfl ?_
        exact z_iret (post := (fun (rv : Int) (uu : St) => ((¬ (20 ≤ m_ ∧ m_ ≤ 400) ∧ rv = -2 ∧ uu = σ) ∨ ((20 ≤ m_ ∧ m_ ≤ 400) ∧ ((is = 1 ∧ ¬ ixF (σ 15) m_ (σ 16 0).toNat = -9) ∨ (is = 0 ∧ ixF (σ 15) m_ (σ 16 0).toNat = -9)) ∧ rv = 0 ∧ uu = σ) ∨ ((20 ≤ m_ ∧ m_ ≤ 400) ∧ is = 1 ∧ ixF (σ 15) m_ (σ 16 0).toNat = -9 ∧ σ 16 0 = 16 ∧ rv = -4 ∧ uu = σ) ∨ ((20 ≤ m_ ∧ m_ ≤ 400) ∧ is = 1 ∧ ixF (σ 15) m_ (σ 16 0).toNat = -9 ∧ ¬ σ 16 0 = 16 ∧ rv = 1 ∧ (∀ F, F ≠ 15 → F ≠ 16 → F ≠ 19 → uu F = σ F) ∧ uu 19 0 = 0 ∧ WfC uu ∧ uu 16 0 = σ 16 0 + 1 ∧ uu 15 = insM (σ 15) m_ (σ 16 0)) ∨ ((20 ≤ m_ ∧ m_ ≤ 400) ∧ is = 0 ∧ ¬ ixF (σ 15) m_ (σ 16 0).toNat = -9 ∧ rv = 1 ∧ (∀ F, F ≠ 15 → F ≠ 16 → F ≠ 19 → uu F = σ F) ∧ uu 19 0 = 0 ∧ WfC uu ∧ uu 16 0 = σ 16 0 - 1 ∧ uu 15 = delM (σ 15) (ixF (σ 15) m_ (σ 16 0).toNat) (σ 16 0))))) X dX5_mark_74 hret u70 (by first | exact Or.inr (Or.inr (Or.inr (Or.inl ⟨hp1, by omega, by omega, by omega, rfl, mkF hp70 hn52, by rw [hp70, up_s], eqC.wf (σ := u52) (mkG hp70) (wf_ins hwf hp1 (by omega) (by omega) hn52 h1652 h1552), by rw [hp70]; exact h1652, by rw [hp70]; exact h1552⟩))) | exact Or.inr (Or.inr (Or.inr (Or.inr ⟨hp1, by omega, by omega, rfl, mkF hp70 hn63, by rw [hp70, up_s], eqC.wf (σ := u63) (mkG hp70) (wf_del hwf (by rcases hi with q | q <;> omega) hn63 h1663 h1563), by rw [hp70]; exact h1663, by rw [hp70]; exact h1563⟩))))
      · refine z_iconst (pc' := 23) X dX5_mark_22 rfl ?_
        exact z_iret (post := (fun (rv : Int) (uu : St) => ((¬ (20 ≤ m_ ∧ m_ ≤ 400) ∧ rv = -2 ∧ uu = σ) ∨ ((20 ≤ m_ ∧ m_ ≤ 400) ∧ ((is = 1 ∧ ¬ ixF (σ 15) m_ (σ 16 0).toNat = -9) ∨ (is = 0 ∧ ixF (σ 15) m_ (σ 16 0).toNat = -9)) ∧ rv = 0 ∧ uu = σ) ∨ ((20 ≤ m_ ∧ m_ ≤ 400) ∧ is = 1 ∧ ixF (σ 15) m_ (σ 16 0).toNat = -9 ∧ σ 16 0 = 16 ∧ rv = -4 ∧ uu = σ) ∨ ((20 ≤ m_ ∧ m_ ≤ 400) ∧ is = 1 ∧ ixF (σ 15) m_ (σ 16 0).toNat = -9 ∧ ¬ σ 16 0 = 16 ∧ rv = 1 ∧ (∀ F, F ≠ 15 → F ≠ 16 → F ≠ 19 → uu F = σ F) ∧ uu 19 0 = 0 ∧ WfC uu ∧ uu 16 0 = σ 16 0 + 1 ∧ uu 15 = insM (σ 15) m_ (σ 16 0)) ∨ ((20 ≤ m_ ∧ m_ ≤ 400) ∧ is = 0 ∧ ¬ ixF (σ 15) m_ (σ 16 0).toNat = -9 ∧ rv = 1 ∧ (∀ F, F ≠ 15 → F ≠ 16 → F ≠ 19 → uu F = σ F) ∧ uu 19 0 = 0 ∧ WfC uu ∧ uu 16 0 = σ 16 0 - 1 ∧ uu 15 = delM (σ 15) (ixF (σ 15) m_ (σ 16 0).toNat) (σ 16 0))))) X dX5_mark_23 hret σ (Or.inr (Or.inl ⟨hp1, by omega, rfl, rfl⟩))
    · refine z_iload_n (pc' := 19) X dX5_mark_18 rfl 2 rfl rfl ?_
      refine z_icmp_ne (tgt := 24) (pc' := 22) X dX5_mark_19 (by decide) rfl (by omega) (fun h19 => ?_) (fun h19 => ?_)
      · refine z_iload_n (pc' := 25) X dX5_mark_24 rfl 2 rfl rfl ?_
        refine z_if_eq (tgt := 43) (pc' := 28) X dX5_mark_25 (by decide) rfl (by omega) (fun h25 => by exfalso; omega) (fun h25 => ?_)
        refine z_aload_n (pc' := 29) X dX5_mark_28 rfl 0 rfl rfl ?_
        refine z_get (pc' := 32) (C := RX5) (ref := "PivotBeats") (T := TX5) (N := 6) (v := .ref (q 38)) X dX5_mark_29 rfl hin5 0 rfl rfl 2 (by decide) (by decide +kernel) rfl rfl ?_
        refine z_get (pc' := 35) (C := RX2) (ref := "PivotBeats$Metronome") (T := TX2) (N := 2) (v := .int (jI (σ 16 0))) X dX5_mark_32 rfl hin2 3 rfl rfl 1 (by decide) (by decide +kernel) rfl rfl ?_
        refine z_bipush (pc' := 37) X dX5_mark_35 rfl rfl ?_
        refine z_icmp_lt (tgt := 43) (pc' := 40) X dX5_mark_37 (by decide) rfl (by omega) (fun h37 => ?_) (fun h37 => ?_)
        · refine z_iload_n (pc' := 44) X dX5_mark_43 rfl 2 rfl rfl ?_
          refine z_if_eq (tgt := 58) (pc' := 47) X dX5_mark_44 (by decide) rfl (by omega) (fun h44 => by exfalso; omega) (fun h44 => ?_)
          refine z_aload_n (pc' := 48) X dX5_mark_47 rfl 0 rfl rfl ?_
          refine z_get (pc' := 51) (C := RX5) (ref := "PivotBeats") (T := TX5) (N := 6) (v := .ref (q 38)) X dX5_mark_48 rfl hin5 0 rfl rfl 2 (by decide) (by decide +kernel) rfl rfl ?_
          refine z_iload_n (pc' := 52) X dX5_mark_51 rfl 1 rfl rfl ?_
          refine z_callVV (pc' := 55) (S := St) (As := [.int (jI m_)]) (rest := []) X dX5_mark_52 rfl (kX2_put l D E q σ m_  (hwf) (by omega)) (cwV 1 X.1.2.2.2.2 gX5_mark_X2_put rfl rfl rfl (by decide +kernel) ⟨Nat.le_of_ble_eq_true rfl, Nat.le_of_ble_eq_true rfl⟩) 3 rfl rfl rfl rfl (Nat.le_of_ble_eq_true rfl) (fun u52 hp52 => ?_)
          obtain ⟨hn52, h1652, h1552⟩ := hp52
          refine z_goto (tgt := 66) X dX5_mark_55 (by decide) ?_
          refine z_aload_n (pc' := 67) X dX5_mark_66 rfl 0 rfl rfl ?_
          refine z_get (pc' := 70) (C := RX5) (ref := "PivotBeats") (T := TX5) (N := 6) (v := .ref (q 39)) X dX5_mark_67 rfl hin5 0 rfl rfl 3 (by decide) (by decide +kernel) rfl rfl ?_
          refine z_callVV (pc' := 73) (S := St) (As := []) (rest := []) X dX5_mark_70 rfl (kX0_forget l D E q u52   ) (cwV 0 X.1.2.2.2.2 gX5_mark_X0_forget rfl rfl rfl (by decide +kernel) ⟨Nat.le_of_ble_eq_true rfl, Nat.le_of_ble_eq_true rfl⟩) 4 rfl rfl rfl rfl (Nat.le_of_ble_eq_true rfl) (fun u70 hp70 => ?_)
          refine z_iconst (pc' := 74) X dX5_mark_73 rfl ?_
          exact z_iret (post := (fun (rv : Int) (uu : St) => ((¬ (20 ≤ m_ ∧ m_ ≤ 400) ∧ rv = -2 ∧ uu = σ) ∨ ((20 ≤ m_ ∧ m_ ≤ 400) ∧ ((is = 1 ∧ ¬ ixF (σ 15) m_ (σ 16 0).toNat = -9) ∨ (is = 0 ∧ ixF (σ 15) m_ (σ 16 0).toNat = -9)) ∧ rv = 0 ∧ uu = σ) ∨ ((20 ≤ m_ ∧ m_ ≤ 400) ∧ is = 1 ∧ ixF (σ 15) m_ (σ 16 0).toNat = -9 ∧ σ 16 0 = 16 ∧ rv = -4 ∧ uu = σ) ∨ ((20 ≤ m_ ∧ m_ ≤ 400) ∧ is = 1 ∧ ixF (σ 15) m_ (σ 16 0).toNat = -9 ∧ ¬ σ 16 0 = 16 ∧ rv = 1 ∧ (∀ F, F ≠ 15 → F ≠ 16 → F ≠ 19 → uu F = σ F) ∧ uu 19 0 = 0 ∧ WfC uu ∧ uu 16 0 = σ 16 0 + 1 ∧ uu 15 = insM (σ 15) m_ (σ 16 0)) ∨ ((20 ≤ m_ ∧ m_ ≤ 400) ∧ is = 0 ∧ ¬ ixF (σ 15) m_ (σ 16 0).toNat = -9 ∧ rv = 1 ∧ (∀ F, F ≠ 15 → F ≠ 16 → F ≠ 19 → uu F = σ F) ∧ uu 19 0 = 0 ∧ WfC uu ∧ uu 16 0 = σ 16 0 - 1 ∧ uu 15 = delM (σ 15) (ixF (σ 15) m_ (σ 16 0).toNat) (σ 16 0))))) X dX5_mark_74 hret u70 (by first | exact Or.inr (Or.inr (Or.inr (Or.inl ⟨hp1, by omega, by omega, by omega, rfl, mkF hp70 hn52, by rw [hp70, up_s], eqC.wf (σ := u52) (mkG hp70) (wf_ins hwf hp1 (by omega) (by omega) hn52 h1652 h1552), by rw [hp70]; exact h1652, by rw [hp70]; exact h1552⟩))) | exact Or.inr (Or.inr (Or.inr (Or.inr ⟨hp1, by omega, by omega, rfl, mkF hp70 hn63, by rw [hp70, up_s], eqC.wf (σ := u63) (mkG hp70) (wf_del hwf (by rcases hi with q | q <;> omega) hn63 h1663 h1563), by rw [hp70]; exact h1663, by rw [hp70]; exact h1563⟩))))
        · refine z_bipush (pc' := 42) X dX5_mark_40 rfl rfl ?_
          exact z_iret (post := (fun (rv : Int) (uu : St) => ((¬ (20 ≤ m_ ∧ m_ ≤ 400) ∧ rv = -2 ∧ uu = σ) ∨ ((20 ≤ m_ ∧ m_ ≤ 400) ∧ ((is = 1 ∧ ¬ ixF (σ 15) m_ (σ 16 0).toNat = -9) ∨ (is = 0 ∧ ixF (σ 15) m_ (σ 16 0).toNat = -9)) ∧ rv = 0 ∧ uu = σ) ∨ ((20 ≤ m_ ∧ m_ ≤ 400) ∧ is = 1 ∧ ixF (σ 15) m_ (σ 16 0).toNat = -9 ∧ σ 16 0 = 16 ∧ rv = -4 ∧ uu = σ) ∨ ((20 ≤ m_ ∧ m_ ≤ 400) ∧ is = 1 ∧ ixF (σ 15) m_ (σ 16 0).toNat = -9 ∧ ¬ σ 16 0 = 16 ∧ rv = 1 ∧ (∀ F, F ≠ 15 → F ≠ 16 → F ≠ 19 → uu F = σ F) ∧ uu 19 0 = 0 ∧ WfC uu ∧ uu 16 0 = σ 16 0 + 1 ∧ uu 15 = insM (σ 15) m_ (σ 16 0)) ∨ ((20 ≤ m_ ∧ m_ ≤ 400) ∧ is = 0 ∧ ¬ ixF (σ 15) m_ (σ 16 0).toNat = -9 ∧ rv = 1 ∧ (∀ F, F ≠ 15 → F ≠ 16 → F ≠ 19 → uu F = σ F) ∧ uu 19 0 = 0 ∧ WfC uu ∧ uu 16 0 = σ 16 0 - 1 ∧ uu 15 = delM (σ 15) (ixF (σ 15) m_ (σ 16 0).toNat) (σ 16 0))))) X dX5_mark_42 hret σ (Or.inr (Or.inr (Or.inl ⟨hp1, by omega, by omega, by omega, rfl, rfl⟩)))
      · refine z_iconst (pc' := 23) X dX5_mark_22 rfl ?_
        exact z_iret (post := (fun (rv : Int) (uu : St) => ((¬ (20 ≤ m_ ∧ m_ ≤ 400) ∧ rv = -2 ∧ uu = σ) ∨ ((20 ≤ m_ ∧ m_ ≤ 400) ∧ ((is = 1 ∧ ¬ ixF (σ 15) m_ (σ 16 0).toNat = -9) ∨ (is = 0 ∧ ixF (σ 15) m_ (σ 16 0).toNat = -9)) ∧ rv = 0 ∧ uu = σ) ∨ ((20 ≤ m_ ∧ m_ ≤ 400) ∧ is = 1 ∧ ixF (σ 15) m_ (σ 16 0).toNat = -9 ∧ σ 16 0 = 16 ∧ rv = -4 ∧ uu = σ) ∨ ((20 ≤ m_ ∧ m_ ≤ 400) ∧ is = 1 ∧ ixF (σ 15) m_ (σ 16 0).toNat = -9 ∧ ¬ σ 16 0 = 16 ∧ rv = 1 ∧ (∀ F, F ≠ 15 → F ≠ 16 → F ≠ 19 → uu F = σ F) ∧ uu 19 0 = 0 ∧ WfC uu ∧ uu 16 0 = σ 16 0 + 1 ∧ uu 15 = insM (σ 15) m_ (σ 16 0)) ∨ ((20 ≤ m_ ∧ m_ ≤ 400) ∧ is = 0 ∧ ¬ ixF (σ 15) m_ (σ 16 0).toNat = -9 ∧ rv = 1 ∧ (∀ F, F ≠ 15 → F ≠ 16 → F ≠ 19 → uu F = σ F) ∧ uu 19 0 = 0 ∧ WfC uu ∧ uu 16 0 = σ 16 0 - 1 ∧ uu 15 = delM (σ 15) (ixF (σ 15) m_ (σ 16 0).toNat) (σ 16 0))))) X dX5_mark_23 hret σ (Or.inr (Or.inl ⟨hp1, by omega, rfl, rfl⟩))
  · refine z_if_ne (tgt := 10) (pc' := 7) X dX5_mark_4 (by decide) rfl (by omega) (fun h => absurd h (by decide)) (fun _ => ?_)
    refine z_bipush (pc' := 9) X dX5_mark_7 rfl rfl ?_
    exact z_iret (post := (fun (rv : Int) (uu : St) => ((¬ (20 ≤ m_ ∧ m_ ≤ 400) ∧ rv = -2 ∧ uu = σ) ∨ ((20 ≤ m_ ∧ m_ ≤ 400) ∧ ((is = 1 ∧ ¬ ixF (σ 15) m_ (σ 16 0).toNat = -9) ∨ (is = 0 ∧ ixF (σ 15) m_ (σ 16 0).toNat = -9)) ∧ rv = 0 ∧ uu = σ) ∨ ((20 ≤ m_ ∧ m_ ≤ 400) ∧ is = 1 ∧ ixF (σ 15) m_ (σ 16 0).toNat = -9 ∧ σ 16 0 = 16 ∧ rv = -4 ∧ uu = σ) ∨ ((20 ≤ m_ ∧ m_ ≤ 400) ∧ is = 1 ∧ ixF (σ 15) m_ (σ 16 0).toNat = -9 ∧ ¬ σ 16 0 = 16 ∧ rv = 1 ∧ (∀ F, F ≠ 15 → F ≠ 16 → F ≠ 19 → uu F = σ F) ∧ uu 19 0 = 0 ∧ WfC uu ∧ uu 16 0 = σ 16 0 + 1 ∧ uu 15 = insM (σ 15) m_ (σ 16 0)) ∨ ((20 ≤ m_ ∧ m_ ≤ 400) ∧ is = 0 ∧ ¬ ixF (σ 15) m_ (σ 16 0).toNat = -9 ∧ rv = 1 ∧ (∀ F, F ≠ 15 → F ≠ 16 → F ≠ 19 → uu F = σ F) ∧ uu 19 0 = 0 ∧ WfC uu ∧ uu 16 0 = σ 16 0 - 1 ∧ uu 15 = delM (σ 15) (ixF (σ 15) m_ (σ 16 0).toNat) (σ 16 0))))) X dX5_mark_9 hret σ (Or.inl ⟨hp1, rfl, rfl⟩)
set_option maxHeartbeats 4000000 in
set_option maxRecDepth 100000 in
theorem kX5_markAt (l : Launch) (D : va_G) (E : Nat → Nat) (q : Nat → Nat) (σ : St) (k : Int) (hwf : WfC σ) (hr : (-2147483648 ≤ k ∧ k < 2147483648)) : CtI l D E yX5_markAt wsX5_markAt ({ frames := 0, cells := 0, slots := 0, locals := 0 } : Room) [.ref (q 0), .int (jI k)] (CW E q σ) (CW E q) (fun (rv : Int) (uu : St) => σ = uu ∧ rv = (if 0 ≤ k ∧ k ≤ 15 then (if k < σ 16 0 then σ 15 k else -9) else -2)) := by
  refine mk_I (cc := cX5_markAt) (maxL := 2) (ret := some .int) (by decide) rfl (Nat.le_of_ble_eq_true rfl) ?_
  intro p e s m args below meth c A X hret
  have hin5 : ∀ x ∈ u_ws RX5 TX5 6, x ∈ wsX5_markAt := fun _ h => List.mem_cons_of_mem _ (List.mem_append_left _ (List.mem_append_right _ h))
  have hin2 : ∀ x ∈ u_ws RX2 TX2 2, x ∈ wsX5_markAt := fun _ h => List.mem_cons_of_mem _ (List.mem_append_right _ h)
  refine z_lv (lv' := [(0, .ref (q 0)), (1, .int (jI k))]) [0, 1] rfl ?_
  obtain ⟨n1, n0, n4, n16⟩ := hwf.n
  refine z_iload_n (pc' := 1) X dX5_markAt_0 rfl 1 rfl rfl ?_
  refine z_if_lt (tgt := 10) (pc' := 4) X dX5_markAt_1 (by decide) rfl (by omega) (fun h1 => ?_) (fun h1 => ?_)
  · refine z_bipush (pc' := 12) X dX5_markAt_10 rfl rfl ?_
    exact z_iret (post := (fun (rv : Int) (uu : St) => σ = uu ∧ rv = (if 0 ≤ k ∧ k ≤ 15 then (if k < σ 16 0 then σ 15 k else -9) else -2))) X dX5_markAt_12 hret σ (⟨rfl, by rw [if_neg (by omega)]⟩)
  · refine z_iload_n (pc' := 5) X dX5_markAt_4 rfl 1 rfl rfl ?_
    refine z_bipush (pc' := 7) X dX5_markAt_5 rfl rfl ?_
    refine z_icmp_lt (tgt := 13) (pc' := 10) X dX5_markAt_7 (by decide) rfl (by omega) (fun h7 => ?_) (fun h7 => ?_)
    · refine z_iload_n (pc' := 14) X dX5_markAt_13 rfl 1 rfl rfl ?_
      refine z_aload_n (pc' := 15) X dX5_markAt_14 rfl 0 rfl rfl ?_
      refine z_get (pc' := 18) (C := RX5) (ref := "PivotBeats") (T := TX5) (N := 6) (v := .ref (q 38)) X dX5_markAt_15 rfl hin5 0 rfl rfl 2 (by decide) (by decide +kernel) rfl rfl ?_
      refine z_get (pc' := 21) (C := RX2) (ref := "PivotBeats$Metronome") (T := TX2) (N := 2) (v := .int (jI (σ 16 0))) X dX5_markAt_18 rfl hin2 3 rfl rfl 1 (by decide) (by decide +kernel) rfl rfl ?_
      refine z_icmp_ge (tgt := 36) (pc' := 24) X dX5_markAt_21 (by decide) rfl (by omega) (fun h21 => ?_) (fun h21 => ?_)
      · refine z_bipush (pc' := 38) X dX5_markAt_36 rfl rfl ?_
        exact z_iret (post := (fun (rv : Int) (uu : St) => σ = uu ∧ rv = (if 0 ≤ k ∧ k ≤ 15 then (if k < σ 16 0 then σ 15 k else -9) else -2))) X dX5_markAt_38 hret σ (⟨rfl, by rw [if_pos (by omega)]; first | (rw [if_pos (by omega)]; done) | (rw [if_neg (by omega)]; done)⟩)
      · refine z_aload_n (pc' := 25) X dX5_markAt_24 rfl 0 rfl rfl ?_
        refine z_get (pc' := 28) (C := RX5) (ref := "PivotBeats") (T := TX5) (N := 6) (v := .ref (q 38)) X dX5_markAt_25 rfl hin5 0 rfl rfl 2 (by decide) (by decide +kernel) rfl rfl ?_
        refine z_get (pc' := 31) (C := RX2) (ref := "PivotBeats$Metronome") (T := TX2) (N := 2) (v := .ref (q 15)) X dX5_markAt_28 rfl hin2 3 rfl rfl 0 (by decide) (by decide +kernel) rfl rfl ?_
        refine z_iload_n (pc' := 32) X dX5_markAt_31 rfl 1 rfl rfl ?_
        refine z_iald (pc' := 33) (f := σ 15) (n := 16) X dX5_markAt_32 rfl 18 rfl (by decide) (by omega) ?_
        refine z_goto (tgt := 38) X dX5_markAt_33 (by decide) ?_
        exact z_iret (post := (fun (rv : Int) (uu : St) => σ = uu ∧ rv = (if 0 ≤ k ∧ k ≤ 15 then (if k < σ 16 0 then σ 15 k else -9) else -2))) X dX5_markAt_38 hret σ (⟨rfl, by rw [if_pos (by omega)]; first | (rw [if_pos (by omega)]; done) | (rw [if_neg (by omega)]; done)⟩)
    · refine z_bipush (pc' := 12) X dX5_markAt_10 rfl rfl ?_
      exact z_iret (post := (fun (rv : Int) (uu : St) => σ = uu ∧ rv = (if 0 ≤ k ∧ k ≤ 15 then (if k < σ 16 0 then σ 15 k else -9) else -2))) X dX5_markAt_12 hret σ (⟨rfl, by rw [if_neg (by omega)]⟩)
set_option maxHeartbeats 4000000 in
set_option maxRecDepth 100000 in
theorem kX5_nearest (l : Launch) (D : va_G) (E : Nat → Nat) (q : Nat → Nat) (σ : St) (s_ : Int) (hwf : WfC σ) (hji : JI σ) (hr : (-2147483648 ≤ s_ ∧ s_ < 2147483648)) : CtI l D E yX5_nearest wsX5_nearest ({ frames := 4, cells := 0, slots := 0, locals := 94 } : Room) [.ref (q 0), .int (jI s_)] (CW E q σ) (CW E q) (fun (rv : Int) (uu : St) => σ = uu ∧ rv = fNear (σ 1 0) (σ 0 0) (σ 4 0) (σ 5) (σ 6) (σ 7) (σ 8) (σ 16 0) (σ 15) s_) := by
  refine mk_I (cc := cX5_nearest) (maxL := 2) (ret := some .int) (by decide) rfl (Nat.le_of_ble_eq_true rfl) ?_
  intro p e s m args below meth c A X hret
  have hin5 : ∀ x ∈ u_ws RX5 TX5 6, x ∈ wsX5_nearest := fun _ h => List.mem_cons_of_mem _ (List.mem_append_left _ (List.mem_append_left _ (List.mem_append_left _ (List.mem_append_right _ h))))
  have hin3 : ∀ x ∈ u_ws RX3 TX3 9, x ∈ wsX5_nearest := fun _ h => List.mem_cons_of_mem _ (List.mem_append_left _ (List.mem_append_left _ (List.mem_append_right _ h)))
  have hin1 : ∀ x ∈ u_ws RX1 TX1 5, x ∈ wsX5_nearest := fun _ h => List.mem_cons_of_mem _ (List.mem_append_left _ (List.mem_append_right _ h))
  have hin2 : ∀ x ∈ u_ws RX2 TX2 2, x ∈ wsX5_nearest := fun _ h => List.mem_cons_of_mem _ (List.mem_append_right _ h)
  refine z_lv (lv' := [(0, .ref (q 0)), (1, .int (jI s_))]) [0, 1] rfl ?_
  obtain ⟨n1, n0, n4, n16⟩ := hwf.n
  refine z_aload_n (pc' := 1) X dX5_nearest_0 rfl 0 rfl rfl ?_
  refine z_iload_n (pc' := 2) X dX5_nearest_1 rfl 1 rfl rfl ?_
  refine z_callVI (pc' := 5) (S := St) (As := [.int (jI s_)]) (rest := []) X dX5_nearest_2 rfl (kX5_isSection l D E q σ s_  (hwf) (by omega)) (cwV 1 X.1.2.2.2.2 gX5_nearest_X5_isSection rfl rfl rfl (by decide +kernel) ⟨Nat.le_of_ble_eq_true rfl, Nat.le_of_ble_eq_true rfl⟩) 0 rfl rfl rfl rfl (Nat.le_of_ble_eq_true rfl) (fun r2 u2 hp2 => ?_)
  obtain ⟨rfl, hp2⟩ := hp2
  rcases hp2 with ⟨rfl, hp2⟩ | ⟨rfl, hp2⟩
  · refine z_if_ne (tgt := 10) (pc' := 8) X dX5_nearest_5 (by decide) rfl (by omega) (fun _ => ?_) (fun h => absurd h (by decide))
    refine z_aload_n (pc' := 11) X dX5_nearest_10 rfl 0 rfl rfl ?_
    refine z_iload_n (pc' := 12) X dX5_nearest_11 rfl 1 rfl rfl ?_
    refine z_callVI (pc' := 15) (S := St) (As := [.int (jI s_)]) (rest := []) X dX5_nearest_12 rfl (kX5_nearestMark l D E q σ s_  (hwf) (hji) (by omega)) (cwV 1 X.1.2.2.2.2 gX5_nearest_X5_nearestMark rfl rfl rfl (by decide +kernel) ⟨Nat.le_of_ble_eq_true rfl, Nat.le_of_ble_eq_true rfl⟩) 0 rfl rfl rfl rfl (Nat.le_of_ble_eq_true rfl) (fun r12 u12 hp12 => ?_)
    obtain ⟨rfl, hp12⟩ := hp12; replace hp12 := hp12.symm; subst hp12
    exact z_iret (post := (fun (rv : Int) (uu : St) => σ = uu ∧ rv = fNear (σ 1 0) (σ 0 0) (σ 4 0) (σ 5) (σ 6) (σ 7) (σ 8) (σ 16 0) (σ 15) s_)) X dX5_nearest_15 hret σ (⟨rfl, by unfold fNear; rw [if_pos hp2]⟩)
  · refine z_if_ne (tgt := 10) (pc' := 8) X dX5_nearest_5 (by decide) rfl (by omega) (fun h => absurd h (by decide)) (fun _ => ?_)
    refine z_iconst (pc' := 9) X dX5_nearest_8 rfl ?_
    exact z_iret (post := (fun (rv : Int) (uu : St) => σ = uu ∧ rv = fNear (σ 1 0) (σ 0 0) (σ 4 0) (σ 5) (σ 6) (σ 7) (σ 8) (σ 16 0) (σ 15) s_)) X dX5_nearest_9 hret σ (⟨rfl, by unfold fNear; rw [if_neg hp2]⟩)
set_option maxHeartbeats 4000000 in
set_option maxRecDepth 100000 in
theorem kX5_away (l : Launch) (D : va_G) (E : Nat → Nat) (q : Nat → Nat) (σ : St) (s_ which : Int) (hwf : WfC σ) (hji : JI σ) (hr : (-2147483648 ≤ s_ ∧ s_ < 2147483648) ∧ (-2147483648 ≤ which ∧ which < 2147483648)) : CtL l D E yX5_away wsX5_away ({ frames := 4, cells := 0, slots := 0, locals := 94 } : Room) [.ref (q 0), .int (jI s_), .int (jI which)] (CW E q σ) (CW E q) (fun (rv : Int) (uu : St) => σ = uu ∧ rv = fAway (σ 1 0) (σ 0 0) (σ 4 0) (σ 5) (σ 6) (σ 7) (σ 8) (σ 16 0) (σ 15) s_ which) := by
  refine mk_L (cc := cX5_away) (maxL := 6) (ret := some .long) (by decide) rfl (Nat.le_of_ble_eq_true rfl) ?_
  intro p e s m args below meth c A X hret
  have hin5 : ∀ x ∈ u_ws RX5 TX5 6, x ∈ wsX5_away := fun _ h => List.mem_cons_of_mem _ (List.mem_append_left _ (List.mem_append_left _ (List.mem_append_left _ (List.mem_append_right _ h))))
  have hin3 : ∀ x ∈ u_ws RX3 TX3 9, x ∈ wsX5_away := fun _ h => List.mem_cons_of_mem _ (List.mem_append_left _ (List.mem_append_left _ (List.mem_append_right _ h)))
  have hin1 : ∀ x ∈ u_ws RX1 TX1 5, x ∈ wsX5_away := fun _ h => List.mem_cons_of_mem _ (List.mem_append_left _ (List.mem_append_right _ h))
  have hin2 : ∀ x ∈ u_ws RX2 TX2 2, x ∈ wsX5_away := fun _ h => List.mem_cons_of_mem _ (List.mem_append_right _ h)
  refine z_lv (lv' := [(0, .ref (q 0)), (1, .int (jI s_)), (2, .int (jI which))]) [0, 1, 2] rfl ?_
  obtain ⟨n1, n0, n4, n16⟩ := hwf.n
  refine z_aload_n (pc' := 1) X dX5_away_0 rfl 0 rfl rfl ?_
  refine z_iload_n (pc' := 2) X dX5_away_1 rfl 1 rfl rfl ?_
  refine z_callVI (pc' := 5) (S := St) (As := [.int (jI s_)]) (rest := []) X dX5_away_2 rfl (kX5_isSection l D E q σ s_  (hwf) (by omega)) (cwV 1 X.1.2.2.2.2 gX5_away_X5_isSection rfl rfl rfl (by decide +kernel) ⟨Nat.le_of_ble_eq_true rfl, Nat.le_of_ble_eq_true rfl⟩) 0 rfl rfl rfl rfl (Nat.le_of_ble_eq_true rfl) (fun r2 u2 hp2 => ?_)
  obtain ⟨rfl, hp2⟩ := hp2
  rcases hp2 with ⟨rfl, hp2⟩ | ⟨rfl, hp2⟩
  · refine z_if_ne (tgt := 12) (pc' := 8) X dX5_away_5 (by decide) rfl (by omega) (fun _ => ?_) (fun h => absurd h (by decide))
    refine z_iload_n (pc' := 13) X dX5_away_12 rfl 2 rfl rfl ?_
    refine z_callPI (pc' := 16) (S := Unit) (As := [.int (jI which)]) (rest := []) X dX5_away_13 rfl (kX5_isWhich l D E which  (by omega)) (va_cwS 1 X.1.2.2.2.2 gX5_away_X5_isWhich rfl rfl rfl (by decide +kernel) ⟨Nat.le_of_ble_eq_true rfl, Nat.le_of_ble_eq_true rfl⟩) rfl rfl (Nat.le_of_ble_eq_true rfl) (fun r13 u13 hp13 => ?_)
    skip
    rcases hp13 with ⟨rfl, hp13⟩ | ⟨rfl, hp13⟩
    · refine z_if_ne (tgt := 23) (pc' := 19) X dX5_away_16 (by decide) rfl (by omega) (fun _ => ?_) (fun h => absurd h (by decide))
      skip
      refine z_aload_n (pc' := 24) X dX5_away_23 rfl 0 rfl rfl ?_
      refine z_iload_n (pc' := 25) X dX5_away_24 rfl 1 rfl rfl ?_
      refine z_callVI (pc' := 28) (S := St) (As := [.int (jI s_)]) (rest := []) X dX5_away_25 rfl (kX5_nearestMark l D E q σ s_  (hwf) (hji) (by omega)) (cwV 1 X.1.2.2.2.2 gX5_away_X5_nearestMark rfl rfl rfl (by decide +kernel) ⟨Nat.le_of_ble_eq_true rfl, Nat.le_of_ble_eq_true rfl⟩) 0 rfl rfl rfl rfl (Nat.le_of_ble_eq_true rfl) (fun r25 u25 hp25 => ?_)
      obtain ⟨rfl, e25⟩ := hp25
      have rr := awR hwf e25
      refine z_istore_n (pc' := 29) (lv' := [(3, .int (jI r25)), (0, .ref (q 0)), (1, .int (jI s_)), (2, .int (jI which))]) X dX5_away_28 rfl rfl (by decide) rfl ?_
      refine z_iload_n (pc' := 30) X dX5_away_29 rfl 0 rfl rfl ?_
      refine z_bipush (pc' := 32) X dX5_away_30 rfl rfl ?_
      refine z_icmp_ne (tgt := 39) (pc' := 35) X dX5_away_32 (by decide) rfl (by omega) (fun h32 => ?_) (fun h32 => ?_)
      · obtain ⟨aj, a9, ak, am⟩ := awK hwf e25 h32
        have rb := rUL_bd (st := σ 0 0) rfl hwf.tok (s := s_) (by omega) aj n0
        have hpk := mul_bd (a := r25) (b := rL (σ 0 0) (σ 4 0) (σ 5) (σ 6) (σ 7) (σ 8) s_) (A := 400) (B := 68719476736) (by omega) (by omega)
        have t01 : ¬ (1 : Int) = 0 := by decide
        refine z_aload_n (pc' := 40) X dX5_away_39 rfl 1 rfl rfl ?_
        refine z_iload_n (pc' := 41) X dX5_away_40 rfl 2 rfl rfl ?_
        refine z_iconst (pc' := 42) X dX5_away_41 rfl ?_
        refine z_callVL (pc' := 45) (S := St) (As := [.int (jI s_), .int (jI 1)]) (rest := []) X dX5_away_42 rfl (kX5_tempoPart l D E q σ s_ 1  (hwf) (hji) (by omega)) (cwV 2 X.1.2.2.2.2 gX5_away_X5_tempoPart rfl rfl rfl (by decide +kernel) ⟨Nat.le_of_ble_eq_true rfl, Nat.le_of_ble_eq_true rfl⟩) 0 rfl rfl rfl rfl (Nat.le_of_ble_eq_true rfl) (fun r42 u42 hp42 => ?_)
        obtain ⟨rfl, hp42⟩ := hp42; replace hp42 := hp42.symm; subst hp42
        refine z_lstore (pc' := 47) (lv' := [(4, .long (jL (if 1 = 0 then rU (σ 0 0) (σ 4 0) (σ 5) (σ 6) (σ 7) (σ 8) s_ else rL (σ 0 0) (σ 4 0) (σ 5) (σ 6) (σ 7) (σ 8) s_))), (3, .int (jI r25)), (0, .ref (q 0)), (1, .int (jI s_)), (2, .int (jI which))]) X dX5_away_45 rfl (by decide) rfl ?_
        refine z_iload_n (pc' := 48) X dX5_away_47 rfl 4 rfl rfl ?_
        refine z_iconst (pc' := 49) X dX5_away_48 rfl ?_
        refine z_icmp_ne (tgt := 57) (pc' := 52) X dX5_away_49 (by decide) rfl (by omega) (fun h49 => ?_) (fun h49 => ?_)
        · refine z_aload_n (pc' := 58) X dX5_away_57 rfl 2 rfl rfl ?_
          refine z_iload_n (pc' := 59) X dX5_away_58 rfl 3 rfl rfl ?_
          refine z_iconst (pc' := 60) X dX5_away_59 rfl ?_
          refine z_callVL (pc' := 63) (S := St) (As := [.int (jI s_), .int (jI 0)]) (rest := []) X dX5_away_60 rfl (kX5_tempoPart l D E q σ s_ 0  (hwf) (hji) (by omega)) (cwV 2 X.1.2.2.2.2 gX5_away_X5_tempoPart rfl rfl rfl (by decide +kernel) ⟨Nat.le_of_ble_eq_true rfl, Nat.le_of_ble_eq_true rfl⟩) 0 rfl rfl rfl rfl (Nat.le_of_ble_eq_true rfl) (fun r60 u60 hp60 => ?_)
          obtain ⟨rfl, hp60⟩ := hp60; replace hp60 := hp60.symm; subst hp60
          refine z_iload_n (pc' := 64) X dX5_away_63 rfl 1 rfl rfl ?_
          refine z_i2l (pc' := 65) X dX5_away_64 rfl (by omega) ?_
          refine z_lload (pc' := 67) X dX5_away_65 rfl 0 rfl ?_
          refine z_lmul (pc' := 68) X dX5_away_67 rfl ?_
          refine z_lsub (pc' := 69) X dX5_away_68 rfl ?_
          refine z_absL (pc' := 72) X dX5_away_69 rfl (by decide +kernel) (by decide +kernel) (by decide +kernel) (by decide +kernel) ⟨Nat.le_of_ble_eq_true rfl, Nat.le_of_ble_eq_true rfl⟩ (by (rw [if_pos rfl, if_neg t01]; omega)) ?_
          exact z_lret (post := (fun (rv : Int) (uu : St) => σ = uu ∧ rv = fAway (σ 1 0) (σ 0 0) (σ 4 0) (σ 5) (σ 6) (σ 7) (σ 8) (σ 16 0) (σ 15) s_ which)) X dX5_away_72 hret σ (by first | exact ⟨rfl, by rw [aw_c n0 hp2 hp13 aj a9, if_neg t01, if_pos h49]⟩ | exact ⟨rfl, by rw [aw_c n0 hp2 hp13 aj a9, if_neg t01, if_neg h49, if_pos rfl, ← ak]⟩)
        · refine z_lload (pc' := 54) X dX5_away_52 rfl 0 rfl ?_
          refine z_goto (tgt := 72) X dX5_away_54 (by decide) ?_
          exact z_lret (post := (fun (rv : Int) (uu : St) => σ = uu ∧ rv = fAway (σ 1 0) (σ 0 0) (σ 4 0) (σ 5) (σ 6) (σ 7) (σ 8) (σ 16 0) (σ 15) s_ which)) X dX5_away_72 hret σ (by first | exact ⟨rfl, by rw [aw_c n0 hp2 hp13 aj a9, if_neg t01, if_pos h49]⟩ | exact ⟨rfl, by rw [aw_c n0 hp2 hp13 aj a9, if_neg t01, if_neg h49, if_pos rfl, ← ak]⟩)
      · refine z_ldc2 (pc' := 38) (x := -9) X dX5_away_35 rfl (by decide +kernel) rfl ?_
        exact z_lret (post := (fun (rv : Int) (uu : St) => σ = uu ∧ rv = fAway (σ 1 0) (σ 0 0) (σ 4 0) (σ 5) (σ 6) (σ 7) (σ 8) (σ 16 0) (σ 15) s_ which)) X dX5_away_38 hret σ (⟨rfl, aw9 hp2 hp13 hwf e25 h32⟩)
    · refine z_if_ne (tgt := 23) (pc' := 19) X dX5_away_16 (by decide) rfl (by omega) (fun h => absurd h (by decide)) (fun _ => ?_)
      refine z_ldc2 (pc' := 22) (x := -2) X dX5_away_19 rfl (by decide +kernel) rfl ?_
      exact z_lret (post := (fun (rv : Int) (uu : St) => σ = uu ∧ rv = fAway (σ 1 0) (σ 0 0) (σ 4 0) (σ 5) (σ 6) (σ 7) (σ 8) (σ 16 0) (σ 15) s_ which)) X dX5_away_22 hret σ (⟨rfl, by unfold fAway; rw [if_pos hp2, if_neg hp13]⟩)
  · refine z_if_ne (tgt := 12) (pc' := 8) X dX5_away_5 (by decide) rfl (by omega) (fun h => absurd h (by decide)) (fun _ => ?_)
    refine z_ldc2 (pc' := 11) (x := -1) X dX5_away_8 rfl (by decide +kernel) rfl ?_
    exact z_lret (post := (fun (rv : Int) (uu : St) => σ = uu ∧ rv = fAway (σ 1 0) (σ 0 0) (σ 4 0) (σ 5) (σ 6) (σ 7) (σ 8) (σ 16 0) (σ 15) s_ which)) X dX5_away_11 hret σ (⟨rfl, by unfold fAway; rw [if_neg hp2]⟩)
set_option maxHeartbeats 4000000 in
set_option maxRecDepth 100000 in
theorem kX5_pin (l : Launch) (D : va_G) (E : Nat → Nat) (q : Nat → Nat) (σ : St) (s_ m_ : Int) (hwf : WfC σ) (hr : (-2147483648 ≤ s_ ∧ s_ < 2147483648) ∧ (-2147483648 ≤ m_ ∧ m_ < 2147483648)) : CtI l D E yX5_pin wsX5_pin ({ frames := 1, cells := 0, slots := 0, locals := 21 } : Room) [.ref (q 0), .int (jI s_), .int (jI m_)] (CW E q σ) (CW E q) (fun (rv : Int) (uu : St) => ((¬ (0 ≤ s_ ∧ s_ < σ 1 0) ∧ rv = -1 ∧ uu = σ) ∨ ((0 ≤ s_ ∧ s_ < σ 1 0) ∧ ¬ (m_ = -9 ∨ (20 ≤ m_ ∧ m_ ≤ 400)) ∧ rv = -2 ∧ uu = σ) ∨ ((0 ≤ s_ ∧ s_ < σ 1 0) ∧ (m_ = -9 ∨ (20 ≤ m_ ∧ m_ ≤ 400)) ∧ rv = σ 3 s_ ∧ uu = up (up σ 3 s_ m_) 19 0 0))) := by
  refine mk_I (cc := cX5_pin) (maxL := 4) (ret := some .int) (by decide) rfl (Nat.le_of_ble_eq_true rfl) ?_
  intro p e s m args below meth c A X hret
  have hin5 : ∀ x ∈ u_ws RX5 TX5 6, x ∈ wsX5_pin := fun _ h => List.mem_cons_of_mem _ (List.mem_append_left _ (List.mem_append_left _ (List.mem_append_right _ h)))
  have hin3 : ∀ x ∈ u_ws RX3 TX3 9, x ∈ wsX5_pin := fun _ h => List.mem_cons_of_mem _ (List.mem_append_left _ (List.mem_append_right _ h))
  have hin0 : ∀ x ∈ u_ws RX0 TX0 9, x ∈ wsX5_pin := fun _ h => List.mem_cons_of_mem _ (List.mem_append_right _ h)
  refine z_lv (lv' := [(0, .ref (q 0)), (1, .int (jI s_)), (2, .int (jI m_))]) [0, 1, 2] rfl ?_
  obtain ⟨n1, n0, n4, n16⟩ := hwf.n
  refine z_aload_n (pc' := 1) X dX5_pin_0 rfl 0 rfl rfl ?_
  refine z_iload_n (pc' := 2) X dX5_pin_1 rfl 1 rfl rfl ?_
  refine z_callVI (pc' := 5) (S := St) (As := [.int (jI s_)]) (rest := []) X dX5_pin_2 rfl (kX5_isSection l D E q σ s_  (hwf) (by omega)) (cwV 1 X.1.2.2.2.2 gX5_pin_X5_isSection rfl rfl rfl (by decide +kernel) ⟨Nat.le_of_ble_eq_true rfl, Nat.le_of_ble_eq_true rfl⟩) 0 rfl rfl rfl rfl (Nat.le_of_ble_eq_true rfl) (fun r2 u2 hp2 => ?_)
  obtain ⟨rfl, hp2⟩ := hp2
  rcases hp2 with ⟨rfl, hp2⟩ | ⟨rfl, hp2⟩
  · refine z_if_ne (tgt := 10) (pc' := 8) X dX5_pin_5 (by decide) rfl (by omega) (fun _ => ?_) (fun h => absurd h (by decide))
    refine z_iload_n (pc' := 11) X dX5_pin_10 rfl 2 rfl rfl ?_
    refine z_bipush (pc' := 13) X dX5_pin_11 rfl rfl ?_
    refine z_icmp_eq (tgt := 26) (pc' := 16) X dX5_pin_13 (by decide) rfl (by omega) (fun h13 => ?_) (fun h13 => ?_)
    · refine z_aload_n (pc' := 27) X dX5_pin_26 rfl 0 rfl rfl ?_
      refine z_get (pc' := 30) (C := RX5) (ref := "PivotBeats") (T := TX5) (N := 6) (v := .ref (q 36)) X dX5_pin_27 rfl hin5 0 rfl rfl 0 (by decide) (by decide +kernel) rfl rfl ?_
      refine z_get (pc' := 33) (C := RX3) (ref := "PivotBeats$Piece") (T := TX3) (N := 9) (v := .ref (q 3)) X dX5_pin_30 rfl hin3 1 rfl rfl 2 (by decide) (by decide +kernel) rfl rfl ?_
      refine z_iload_n (pc' := 34) X dX5_pin_33 rfl 1 rfl rfl ?_
      refine z_iald (pc' := 35) (f := σ 3) (n := 7) X dX5_pin_34 rfl 7 rfl (by decide) (by omega) ?_
      refine z_istore_n (pc' := 36) (lv' := [(3, .int (jI (σ 3 s_))), (0, .ref (q 0)), (1, .int (jI s_)), (2, .int (jI m_))]) X dX5_pin_35 rfl rfl (by decide) rfl ?_
      refine z_aload_n (pc' := 37) X dX5_pin_36 rfl 1 rfl rfl ?_
      refine z_get (pc' := 40) (C := RX5) (ref := "PivotBeats") (T := TX5) (N := 6) (v := .ref (q 36)) X dX5_pin_37 rfl hin5 0 rfl rfl 0 (by decide) (by decide +kernel) rfl rfl ?_
      refine z_get (pc' := 43) (C := RX3) (ref := "PivotBeats$Piece") (T := TX3) (N := 9) (v := .ref (q 3)) X dX5_pin_40 rfl hin3 1 rfl rfl 2 (by decide) (by decide +kernel) rfl rfl ?_
      refine z_iload_n (pc' := 44) X dX5_pin_43 rfl 2 rfl rfl ?_
      refine z_iload_n (pc' := 45) X dX5_pin_44 rfl 3 rfl rfl ?_
      refine z_iast (pc' := 46) (f := σ 3) (n := 7) (w' := CW E q (up σ 3 s_ m_)) X dX5_pin_45 rfl 7 rfl (by decide) (by omega) rfl ?_
      refine z_aload_n (pc' := 47) X dX5_pin_46 rfl 1 rfl rfl ?_
      refine z_get (pc' := 50) (C := RX5) (ref := "PivotBeats") (T := TX5) (N := 6) (v := .ref (q 39)) X dX5_pin_47 rfl hin5 0 rfl rfl 3 (by decide) (by decide +kernel) rfl rfl ?_
      refine z_callVV (pc' := 53) (S := St) (As := []) (rest := []) X dX5_pin_50 rfl (kX0_forget l D E q (up σ 3 s_ m_)   ) (cwV 0 X.1.2.2.2.2 gX5_pin_X0_forget rfl rfl rfl (by decide +kernel) ⟨Nat.le_of_ble_eq_true rfl, Nat.le_of_ble_eq_true rfl⟩) 4 rfl rfl rfl rfl (Nat.le_of_ble_eq_true rfl) (fun u50 hp50 => ?_)
      refine z_iload_n (pc' := 54) X dX5_pin_53 rfl 0 rfl rfl ?_
      exact z_iret (post := (fun (rv : Int) (uu : St) => ((¬ (0 ≤ s_ ∧ s_ < σ 1 0) ∧ rv = -1 ∧ uu = σ) ∨ ((0 ≤ s_ ∧ s_ < σ 1 0) ∧ ¬ (m_ = -9 ∨ (20 ≤ m_ ∧ m_ ≤ 400)) ∧ rv = -2 ∧ uu = σ) ∨ ((0 ≤ s_ ∧ s_ < σ 1 0) ∧ (m_ = -9 ∨ (20 ≤ m_ ∧ m_ ≤ 400)) ∧ rv = σ 3 s_ ∧ uu = up (up σ 3 s_ m_) 19 0 0)))) X dX5_pin_54 hret u50 (Or.inr (Or.inr ⟨hp2, by omega, rfl, hp50⟩))
    · refine z_iload_n (pc' := 17) X dX5_pin_16 rfl 2 rfl rfl ?_
      refine z_callPI (pc' := 20) (S := Unit) (As := [.int (jI m_)]) (rest := []) X dX5_pin_17 rfl (kX5_isWholeTempo l D E m_  (by omega)) (va_cwS 1 X.1.2.2.2.2 gX5_pin_X5_isWholeTempo rfl rfl rfl (by decide +kernel) ⟨Nat.le_of_ble_eq_true rfl, Nat.le_of_ble_eq_true rfl⟩) rfl rfl (Nat.le_of_ble_eq_true rfl) (fun r17 u17 hp17 => ?_)
      skip
      rcases hp17 with ⟨rfl, hp17⟩ | ⟨rfl, hp17⟩
      · refine z_if_ne (tgt := 26) (pc' := 23) X dX5_pin_20 (by decide) rfl (by omega) (fun _ => ?_) (fun h => absurd h (by decide))
        refine z_aload_n (pc' := 27) X dX5_pin_26 rfl 0 rfl rfl ?_
        refine z_get (pc' := 30) (C := RX5) (ref := "PivotBeats") (T := TX5) (N := 6) (v := .ref (q 36)) X dX5_pin_27 rfl hin5 0 rfl rfl 0 (by decide) (by decide +kernel) rfl rfl ?_
        refine z_get (pc' := 33) (C := RX3) (ref := "PivotBeats$Piece") (T := TX3) (N := 9) (v := .ref (q 3)) X dX5_pin_30 rfl hin3 1 rfl rfl 2 (by decide) (by decide +kernel) rfl rfl ?_
        refine z_iload_n (pc' := 34) X dX5_pin_33 rfl 1 rfl rfl ?_
        refine z_iald (pc' := 35) (f := σ 3) (n := 7) X dX5_pin_34 rfl 7 rfl (by decide) (by omega) ?_
        refine z_istore_n (pc' := 36) (lv' := [(3, .int (jI (σ 3 s_))), (0, .ref (q 0)), (1, .int (jI s_)), (2, .int (jI m_))]) X dX5_pin_35 rfl rfl (by decide) rfl ?_
        refine z_aload_n (pc' := 37) X dX5_pin_36 rfl 1 rfl rfl ?_
        refine z_get (pc' := 40) (C := RX5) (ref := "PivotBeats") (T := TX5) (N := 6) (v := .ref (q 36)) X dX5_pin_37 rfl hin5 0 rfl rfl 0 (by decide) (by decide +kernel) rfl rfl ?_
        refine z_get (pc' := 43) (C := RX3) (ref := "PivotBeats$Piece") (T := TX3) (N := 9) (v := .ref (q 3)) X dX5_pin_40 rfl hin3 1 rfl rfl 2 (by decide) (by decide +kernel) rfl rfl ?_
        refine z_iload_n (pc' := 44) X dX5_pin_43 rfl 2 rfl rfl ?_
        refine z_iload_n (pc' := 45) X dX5_pin_44 rfl 3 rfl rfl ?_
        refine z_iast (pc' := 46) (f := σ 3) (n := 7) (w' := CW E q (up σ 3 s_ m_)) X dX5_pin_45 rfl 7 rfl (by decide) (by omega) rfl ?_
        refine z_aload_n (pc' := 47) X dX5_pin_46 rfl 1 rfl rfl ?_
        refine z_get (pc' := 50) (C := RX5) (ref := "PivotBeats") (T := TX5) (N := 6) (v := .ref (q 39)) X dX5_pin_47 rfl hin5 0 rfl rfl 3 (by decide) (by decide +kernel) rfl rfl ?_
        refine z_callVV (pc' := 53) (S := St) (As := []) (rest := []) X dX5_pin_50 rfl (kX0_forget l D E q (up σ 3 s_ m_)   ) (cwV 0 X.1.2.2.2.2 gX5_pin_X0_forget rfl rfl rfl (by decide +kernel) ⟨Nat.le_of_ble_eq_true rfl, Nat.le_of_ble_eq_true rfl⟩) 4 rfl rfl rfl rfl (Nat.le_of_ble_eq_true rfl) (fun u50 hp50 => ?_)
        refine z_iload_n (pc' := 54) X dX5_pin_53 rfl 0 rfl rfl ?_
        exact z_iret (post := (fun (rv : Int) (uu : St) => ((¬ (0 ≤ s_ ∧ s_ < σ 1 0) ∧ rv = -1 ∧ uu = σ) ∨ ((0 ≤ s_ ∧ s_ < σ 1 0) ∧ ¬ (m_ = -9 ∨ (20 ≤ m_ ∧ m_ ≤ 400)) ∧ rv = -2 ∧ uu = σ) ∨ ((0 ≤ s_ ∧ s_ < σ 1 0) ∧ (m_ = -9 ∨ (20 ≤ m_ ∧ m_ ≤ 400)) ∧ rv = σ 3 s_ ∧ uu = up (up σ 3 s_ m_) 19 0 0)))) X dX5_pin_54 hret u50 (Or.inr (Or.inr ⟨hp2, by omega, rfl, hp50⟩))
      · refine z_if_ne (tgt := 26) (pc' := 23) X dX5_pin_20 (by decide) rfl (by omega) (fun h => absurd h (by decide)) (fun _ => ?_)
        refine z_bipush (pc' := 25) X dX5_pin_23 rfl rfl ?_
        exact z_iret (post := (fun (rv : Int) (uu : St) => ((¬ (0 ≤ s_ ∧ s_ < σ 1 0) ∧ rv = -1 ∧ uu = σ) ∨ ((0 ≤ s_ ∧ s_ < σ 1 0) ∧ ¬ (m_ = -9 ∨ (20 ≤ m_ ∧ m_ ≤ 400)) ∧ rv = -2 ∧ uu = σ) ∨ ((0 ≤ s_ ∧ s_ < σ 1 0) ∧ (m_ = -9 ∨ (20 ≤ m_ ∧ m_ ≤ 400)) ∧ rv = σ 3 s_ ∧ uu = up (up σ 3 s_ m_) 19 0 0)))) X dX5_pin_25 hret σ (Or.inr (Or.inl ⟨hp2, by omega, rfl, rfl⟩))
  · refine z_if_ne (tgt := 10) (pc' := 8) X dX5_pin_5 (by decide) rfl (by omega) (fun h => absurd h (by decide)) (fun _ => ?_)
    refine z_iconst (pc' := 9) X dX5_pin_8 rfl ?_
    exact z_iret (post := (fun (rv : Int) (uu : St) => ((¬ (0 ≤ s_ ∧ s_ < σ 1 0) ∧ rv = -1 ∧ uu = σ) ∨ ((0 ≤ s_ ∧ s_ < σ 1 0) ∧ ¬ (m_ = -9 ∨ (20 ≤ m_ ∧ m_ ≤ 400)) ∧ rv = -2 ∧ uu = σ) ∨ ((0 ≤ s_ ∧ s_ < σ 1 0) ∧ (m_ = -9 ∨ (20 ≤ m_ ∧ m_ ≤ 400)) ∧ rv = σ 3 s_ ∧ uu = up (up σ 3 s_ m_) 19 0 0)))) X dX5_pin_9 hret σ (Or.inl ⟨hp2, rfl, rfl⟩)
set_option maxHeartbeats 4000000 in
set_option maxRecDepth 100000 in
theorem kX5_clock (l : Launch) (D : va_G) (E : Nat → Nat) (q : Nat → Nat) (σ : St) (s_ what : Int) (hwf : WfC σ) (hji : JI σ) (hr : (-2147483648 ≤ s_ ∧ s_ < 2147483648) ∧ (-2147483648 ≤ what ∧ what < 2147483648)) : CtL l D E yX5_clock wsX5_clock ({ frames := 4, cells := 0, slots := 0, locals := 102 } : Room) [.ref (q 0), .int (jI s_), .int (jI what)] (CW E q σ) (CW E q) (fun (rv : Int) (uu : St) => σ = uu ∧ rv = fClock (σ 1 0) (σ 2) (σ 0 0) (σ 4 0) (σ 5) (σ 6) (σ 7) (σ 8) s_ what) := by
  refine mk_L (cc := cX5_clock) (maxL := 3) (ret := some .long) (by decide) rfl (Nat.le_of_ble_eq_true rfl) ?_
  intro p e s m args below meth c A X hret
  have hin5 : ∀ x ∈ u_ws RX5 TX5 6, x ∈ wsX5_clock := fun _ h => List.mem_cons_of_mem _ (List.mem_append_left _ (List.mem_append_left _ (List.mem_append_right _ h)))
  have hin3 : ∀ x ∈ u_ws RX3 TX3 9, x ∈ wsX5_clock := fun _ h => List.mem_cons_of_mem _ (List.mem_append_left _ (List.mem_append_right _ h))
  have hin1 : ∀ x ∈ u_ws RX1 TX1 5, x ∈ wsX5_clock := fun _ h => List.mem_cons_of_mem _ (List.mem_append_right _ h)
  refine z_lv (lv' := [(0, .ref (q 0)), (1, .int (jI s_)), (2, .int (jI what))]) [0, 1, 2] rfl ?_
  obtain ⟨n1, n0, n4, n16⟩ := hwf.n
  refine z_aload_n (pc' := 1) X dX5_clock_0 rfl 0 rfl rfl ?_
  refine z_iload_n (pc' := 2) X dX5_clock_1 rfl 1 rfl rfl ?_
  refine z_callVI (pc' := 5) (S := St) (As := [.int (jI s_)]) (rest := []) X dX5_clock_2 rfl (kX5_isSection l D E q σ s_  (hwf) (by omega)) (cwV 1 X.1.2.2.2.2 gX5_clock_X5_isSection rfl rfl rfl (by decide +kernel) ⟨Nat.le_of_ble_eq_true rfl, Nat.le_of_ble_eq_true rfl⟩) 0 rfl rfl rfl rfl (Nat.le_of_ble_eq_true rfl) (fun r2 u2 hp2 => ?_)
  obtain ⟨rfl, hp2⟩ := hp2
  rcases hp2 with ⟨rfl, hp2⟩ | ⟨rfl, hp2⟩
  · refine z_if_ne (tgt := 12) (pc' := 8) X dX5_clock_5 (by decide) rfl (by omega) (fun _ => ?_) (fun h => absurd h (by decide))
    refine z_iload_n (pc' := 13) X dX5_clock_12 rfl 2 rfl rfl ?_
    refine z_if_eq (tgt := 25) (pc' := 16) X dX5_clock_13 (by decide) rfl (by omega) (fun h13 => ?_) (fun h13 => ?_)
    · have js := hji.g hwf (s := s_) (by omega)
      have j0 := hji.g hwf (s := 0) (by omega)
      have pl : σ 10 s_ = 0 ↔ jS (σ 5) (σ 6) (σ 7) (σ 8) (σ 4 0).toNat 0 s_ = jS (σ 5) (σ 6) (σ 7) (σ 8) (σ 4 0).toNat 0 0 := by rw [js.1, jS_00 hwf.tok]
      refine z_aload_n (pc' := 26) X dX5_clock_25 rfl 0 rfl rfl ?_
      refine z_get (pc' := 29) (C := RX5) (ref := "PivotBeats") (T := TX5) (N := 6) (v := .ref (q 37)) X dX5_clock_26 rfl hin5 0 rfl rfl 1 (by decide) (by decide +kernel) rfl rfl ?_
      refine z_iload_n (pc' := 30) X dX5_clock_29 rfl 1 rfl rfl ?_
      refine z_callVI (pc' := 33) (S := St) (As := [.int (jI s_)]) (rest := []) X dX5_clock_30 rfl (kX1_isPlayed l D E q σ s_  (by omega)) (cwV 1 X.1.2.2.2.2 gX5_clock_X1_isPlayed rfl rfl rfl (by decide +kernel) ⟨Nat.le_of_ble_eq_true rfl, Nat.le_of_ble_eq_true rfl⟩) 2 rfl rfl rfl rfl (Nat.le_of_ble_eq_true rfl) (fun r30 u30 hp30 => ?_)
      obtain ⟨rfl, hp30⟩ := hp30
      rcases hp30 with ⟨rfl, hp30⟩ | ⟨rfl, hp30⟩
      · refine z_if_ne (tgt := 40) (pc' := 36) X dX5_clock_33 (by decide) rfl (by omega) (fun _ => ?_) (fun h => absurd h (by decide))
        refine z_iload_n (pc' := 41) X dX5_clock_40 rfl 2 rfl rfl ?_
        refine z_iconst (pc' := 42) X dX5_clock_41 rfl ?_
        refine z_icmp_ne (tgt := 57) (pc' := 45) X dX5_clock_42 (by decide) rfl (by omega) (fun h42 => ?_) (fun h42 => ?_)
        · refine z_aload_n (pc' := 58) X dX5_clock_57 rfl 0 rfl rfl ?_
          refine z_iload_n (pc' := 59) X dX5_clock_58 rfl 1 rfl rfl ?_
          refine z_aload_n (pc' := 60) X dX5_clock_59 rfl 0 rfl rfl ?_
          refine z_get (pc' := 63) (C := RX5) (ref := "PivotBeats") (T := TX5) (N := 6) (v := .int (jI (σ 0 0))) X dX5_clock_60 rfl hin5 0 rfl rfl 5 (by decide) (by decide +kernel) rfl rfl ?_
          refine z_callVL (pc' := 66) (S := St) (As := [.int (jI s_), .int (jI (σ 0 0))]) (rest := []) X dX5_clock_63 rfl (kX5_lastingUpTo l D E q σ s_ (σ 0 0)  (hwf) (hji) (by omega)) (cwV 2 X.1.2.2.2.2 gX5_clock_X5_lastingUpTo rfl rfl rfl (by decide +kernel) ⟨Nat.le_of_ble_eq_true rfl, Nat.le_of_ble_eq_true rfl⟩) 0 rfl rfl rfl rfl (Nat.le_of_ble_eq_true rfl) (fun r63 u63 hp63 => ?_)
          obtain ⟨rfl, hp63⟩ := hp63
          obtain ⟨er63, eb63⟩ := hp63
          exact z_lret (post := (fun (rv : Int) (uu : St) => σ = uu ∧ rv = fClock (σ 1 0) (σ 2) (σ 0 0) (σ 4 0) (σ 5) (σ 6) (σ 7) (σ 8) s_ what)) X dX5_clock_66 hret σ (by first | exact ⟨rfl, by unfold fClock; rw [if_pos hp2, if_pos (by omega), if_pos (pl.mp hp30), if_neg (by omega), er51]⟩ | exact ⟨rfl, by unfold fClock; rw [if_pos hp2, if_pos (by omega), if_pos (pl.mp hp30), if_pos (by omega), er63]⟩)
        · refine z_aload_n (pc' := 46) X dX5_clock_45 rfl 0 rfl rfl ?_
          refine z_iload_n (pc' := 47) X dX5_clock_46 rfl 1 rfl rfl ?_
          refine z_aload_n (pc' := 48) X dX5_clock_47 rfl 0 rfl rfl ?_
          refine z_get (pc' := 51) (C := RX5) (ref := "PivotBeats") (T := TX5) (N := 6) (v := .int (jI (σ 0 0))) X dX5_clock_48 rfl hin5 0 rfl rfl 5 (by decide) (by decide +kernel) rfl rfl ?_
          refine z_callVL (pc' := 54) (S := St) (As := [.int (jI s_), .int (jI (σ 0 0))]) (rest := []) X dX5_clock_51 rfl (kX5_lasting l D E q σ s_ (σ 0 0)  (hwf) (hji) (by omega)) (cwV 2 X.1.2.2.2.2 gX5_clock_X5_lasting rfl rfl rfl (by decide +kernel) ⟨Nat.le_of_ble_eq_true rfl, Nat.le_of_ble_eq_true rfl⟩) 0 rfl rfl rfl rfl (Nat.le_of_ble_eq_true rfl) (fun r51 u51 hp51 => ?_)
          obtain ⟨rfl, hp51⟩ := hp51
          obtain ⟨er51, eb51⟩ := hp51
          refine z_goto (tgt := 66) X dX5_clock_54 (by decide) ?_
          exact z_lret (post := (fun (rv : Int) (uu : St) => σ = uu ∧ rv = fClock (σ 1 0) (σ 2) (σ 0 0) (σ 4 0) (σ 5) (σ 6) (σ 7) (σ 8) s_ what)) X dX5_clock_66 hret σ (by first | exact ⟨rfl, by unfold fClock; rw [if_pos hp2, if_pos (by omega), if_pos (pl.mp hp30), if_neg (by omega), er51]⟩ | exact ⟨rfl, by unfold fClock; rw [if_pos hp2, if_pos (by omega), if_pos (pl.mp hp30), if_pos (by omega), er63]⟩)
      · refine z_if_ne (tgt := 40) (pc' := 36) X dX5_clock_33 (by decide) rfl (by omega) (fun h => absurd h (by decide)) (fun _ => ?_)
        refine z_ldc2 (pc' := 39) (x := -9) X dX5_clock_36 rfl (by decide +kernel) rfl ?_
        exact z_lret (post := (fun (rv : Int) (uu : St) => σ = uu ∧ rv = fClock (σ 1 0) (σ 2) (σ 0 0) (σ 4 0) (σ 5) (σ 6) (σ 7) (σ 8) s_ what)) X dX5_clock_39 hret σ (⟨rfl, by unfold fClock; rw [if_pos hp2, if_pos (by omega), if_neg (fun z => hp30 (pl.mpr z))]⟩)
    · refine z_iload_n (pc' := 17) X dX5_clock_16 rfl 2 rfl rfl ?_
      refine z_iconst (pc' := 18) X dX5_clock_17 rfl ?_
      refine z_icmp_eq (tgt := 25) (pc' := 21) X dX5_clock_18 (by decide) rfl (by omega) (fun h18 => ?_) (fun h18 => ?_)
      · have js := hji.g hwf (s := s_) (by omega)
        have j0 := hji.g hwf (s := 0) (by omega)
        have pl : σ 10 s_ = 0 ↔ jS (σ 5) (σ 6) (σ 7) (σ 8) (σ 4 0).toNat 0 s_ = jS (σ 5) (σ 6) (σ 7) (σ 8) (σ 4 0).toNat 0 0 := by rw [js.1, jS_00 hwf.tok]
        refine z_aload_n (pc' := 26) X dX5_clock_25 rfl 0 rfl rfl ?_
        refine z_get (pc' := 29) (C := RX5) (ref := "PivotBeats") (T := TX5) (N := 6) (v := .ref (q 37)) X dX5_clock_26 rfl hin5 0 rfl rfl 1 (by decide) (by decide +kernel) rfl rfl ?_
        refine z_iload_n (pc' := 30) X dX5_clock_29 rfl 1 rfl rfl ?_
        refine z_callVI (pc' := 33) (S := St) (As := [.int (jI s_)]) (rest := []) X dX5_clock_30 rfl (kX1_isPlayed l D E q σ s_  (by omega)) (cwV 1 X.1.2.2.2.2 gX5_clock_X1_isPlayed rfl rfl rfl (by decide +kernel) ⟨Nat.le_of_ble_eq_true rfl, Nat.le_of_ble_eq_true rfl⟩) 2 rfl rfl rfl rfl (Nat.le_of_ble_eq_true rfl) (fun r30 u30 hp30 => ?_)
        obtain ⟨rfl, hp30⟩ := hp30
        rcases hp30 with ⟨rfl, hp30⟩ | ⟨rfl, hp30⟩
        · refine z_if_ne (tgt := 40) (pc' := 36) X dX5_clock_33 (by decide) rfl (by omega) (fun _ => ?_) (fun h => absurd h (by decide))
          refine z_iload_n (pc' := 41) X dX5_clock_40 rfl 2 rfl rfl ?_
          refine z_iconst (pc' := 42) X dX5_clock_41 rfl ?_
          refine z_icmp_ne (tgt := 57) (pc' := 45) X dX5_clock_42 (by decide) rfl (by omega) (fun h42 => ?_) (fun h42 => ?_)
          · refine z_aload_n (pc' := 58) X dX5_clock_57 rfl 0 rfl rfl ?_
            refine z_iload_n (pc' := 59) X dX5_clock_58 rfl 1 rfl rfl ?_
            refine z_aload_n (pc' := 60) X dX5_clock_59 rfl 0 rfl rfl ?_
            refine z_get (pc' := 63) (C := RX5) (ref := "PivotBeats") (T := TX5) (N := 6) (v := .int (jI (σ 0 0))) X dX5_clock_60 rfl hin5 0 rfl rfl 5 (by decide) (by decide +kernel) rfl rfl ?_
            refine z_callVL (pc' := 66) (S := St) (As := [.int (jI s_), .int (jI (σ 0 0))]) (rest := []) X dX5_clock_63 rfl (kX5_lastingUpTo l D E q σ s_ (σ 0 0)  (hwf) (hji) (by omega)) (cwV 2 X.1.2.2.2.2 gX5_clock_X5_lastingUpTo rfl rfl rfl (by decide +kernel) ⟨Nat.le_of_ble_eq_true rfl, Nat.le_of_ble_eq_true rfl⟩) 0 rfl rfl rfl rfl (Nat.le_of_ble_eq_true rfl) (fun r63 u63 hp63 => ?_)
            obtain ⟨rfl, hp63⟩ := hp63
            obtain ⟨er63, eb63⟩ := hp63
            exact z_lret (post := (fun (rv : Int) (uu : St) => σ = uu ∧ rv = fClock (σ 1 0) (σ 2) (σ 0 0) (σ 4 0) (σ 5) (σ 6) (σ 7) (σ 8) s_ what)) X dX5_clock_66 hret σ (by first | exact ⟨rfl, by unfold fClock; rw [if_pos hp2, if_pos (by omega), if_pos (pl.mp hp30), if_neg (by omega), er51]⟩ | exact ⟨rfl, by unfold fClock; rw [if_pos hp2, if_pos (by omega), if_pos (pl.mp hp30), if_pos (by omega), er63]⟩)
          · refine z_aload_n (pc' := 46) X dX5_clock_45 rfl 0 rfl rfl ?_
            refine z_iload_n (pc' := 47) X dX5_clock_46 rfl 1 rfl rfl ?_
            refine z_aload_n (pc' := 48) X dX5_clock_47 rfl 0 rfl rfl ?_
            refine z_get (pc' := 51) (C := RX5) (ref := "PivotBeats") (T := TX5) (N := 6) (v := .int (jI (σ 0 0))) X dX5_clock_48 rfl hin5 0 rfl rfl 5 (by decide) (by decide +kernel) rfl rfl ?_
            refine z_callVL (pc' := 54) (S := St) (As := [.int (jI s_), .int (jI (σ 0 0))]) (rest := []) X dX5_clock_51 rfl (kX5_lasting l D E q σ s_ (σ 0 0)  (hwf) (hji) (by omega)) (cwV 2 X.1.2.2.2.2 gX5_clock_X5_lasting rfl rfl rfl (by decide +kernel) ⟨Nat.le_of_ble_eq_true rfl, Nat.le_of_ble_eq_true rfl⟩) 0 rfl rfl rfl rfl (Nat.le_of_ble_eq_true rfl) (fun r51 u51 hp51 => ?_)
            obtain ⟨rfl, hp51⟩ := hp51
            obtain ⟨er51, eb51⟩ := hp51
            refine z_goto (tgt := 66) X dX5_clock_54 (by decide) ?_
            exact z_lret (post := (fun (rv : Int) (uu : St) => σ = uu ∧ rv = fClock (σ 1 0) (σ 2) (σ 0 0) (σ 4 0) (σ 5) (σ 6) (σ 7) (σ 8) s_ what)) X dX5_clock_66 hret σ (by first | exact ⟨rfl, by unfold fClock; rw [if_pos hp2, if_pos (by omega), if_pos (pl.mp hp30), if_neg (by omega), er51]⟩ | exact ⟨rfl, by unfold fClock; rw [if_pos hp2, if_pos (by omega), if_pos (pl.mp hp30), if_pos (by omega), er63]⟩)
        · refine z_if_ne (tgt := 40) (pc' := 36) X dX5_clock_33 (by decide) rfl (by omega) (fun h => absurd h (by decide)) (fun _ => ?_)
          refine z_ldc2 (pc' := 39) (x := -9) X dX5_clock_36 rfl (by decide +kernel) rfl ?_
          exact z_lret (post := (fun (rv : Int) (uu : St) => σ = uu ∧ rv = fClock (σ 1 0) (σ 2) (σ 0 0) (σ 4 0) (σ 5) (σ 6) (σ 7) (σ 8) s_ what)) X dX5_clock_39 hret σ (⟨rfl, by unfold fClock; rw [if_pos hp2, if_pos (by omega), if_neg (fun z => hp30 (pl.mpr z))]⟩)
      · refine z_ldc2 (pc' := 24) (x := -2) X dX5_clock_21 rfl (by decide +kernel) rfl ?_
        exact z_lret (post := (fun (rv : Int) (uu : St) => σ = uu ∧ rv = fClock (σ 1 0) (σ 2) (σ 0 0) (σ 4 0) (σ 5) (σ 6) (σ 7) (σ 8) s_ what)) X dX5_clock_24 hret σ (⟨rfl, by unfold fClock; rw [if_pos hp2, if_neg (by omega)]⟩)
  · refine z_if_ne (tgt := 12) (pc' := 8) X dX5_clock_5 (by decide) rfl (by omega) (fun h => absurd h (by decide)) (fun _ => ?_)
    refine z_ldc2 (pc' := 11) (x := -1) X dX5_clock_8 rfl (by decide +kernel) rfl ?_
    exact z_lret (post := (fun (rv : Int) (uu : St) => σ = uu ∧ rv = fClock (σ 1 0) (σ 2) (σ 0 0) (σ 4 0) (σ 5) (σ 6) (σ 7) (σ 8) s_ what)) X dX5_clock_11 hret σ (⟨rfl, by unfold fClock; rw [if_neg hp2]⟩)
set_option maxHeartbeats 4000000 in
set_option maxRecDepth 100000 in
theorem kX5_whole (l : Launch) (D : va_G) (E : Nat → Nat) (q : Nat → Nat) (σ : St) (hwf : WfC σ) (hji : JI σ) : CtL l D E yX5_whole wsX5_whole ({ frames := 4, cells := 0, slots := 0, locals := 102 } : Room) [.ref (q 0)] (CW E q σ) (CW E q) (fun (rv : Int) (uu : St) => σ = uu ∧ rv = fWhole (σ 1 0) (σ 2) (σ 0 0) (σ 4 0) (σ 5) (σ 6) (σ 7) (σ 8)) := by
  refine mk_L (cc := cX5_whole) (maxL := 1) (ret := some .long) (by decide) rfl (Nat.le_of_ble_eq_true rfl) ?_
  intro p e s m args below meth c A X hret
  have hin5 : ∀ x ∈ u_ws RX5 TX5 6, x ∈ wsX5_whole := fun _ h => List.mem_cons_of_mem _ (List.mem_append_left _ (List.mem_append_left _ (List.mem_append_right _ h)))
  have hin3 : ∀ x ∈ u_ws RX3 TX3 9, x ∈ wsX5_whole := fun _ h => List.mem_cons_of_mem _ (List.mem_append_left _ (List.mem_append_right _ h))
  have hin1 : ∀ x ∈ u_ws RX1 TX1 5, x ∈ wsX5_whole := fun _ h => List.mem_cons_of_mem _ (List.mem_append_right _ h)
  refine z_lv (lv' := [(0, .ref (q 0))]) [0] rfl ?_
  obtain ⟨n1, n0, n4, n16⟩ := hwf.n
  refine z_aload_n (pc' := 1) X dX5_whole_0 rfl 0 rfl rfl ?_
  refine z_aload_n (pc' := 2) X dX5_whole_1 rfl 0 rfl rfl ?_
  refine z_get (pc' := 5) (C := RX5) (ref := "PivotBeats") (T := TX5) (N := 6) (v := .ref (q 36)) X dX5_whole_2 rfl hin5 0 rfl rfl 0 (by decide) (by decide +kernel) rfl rfl ?_
  refine z_get (pc' := 8) (C := RX3) (ref := "PivotBeats$Piece") (T := TX3) (N := 9) (v := .int (jI (σ 1 0))) X dX5_whole_5 rfl hin3 1 rfl rfl 0 (by decide) (by decide +kernel) rfl rfl ?_
  refine z_aload_n (pc' := 9) X dX5_whole_8 rfl 0 rfl rfl ?_
  refine z_get (pc' := 12) (C := RX5) (ref := "PivotBeats") (T := TX5) (N := 6) (v := .int (jI (σ 0 0))) X dX5_whole_9 rfl hin5 0 rfl rfl 5 (by decide) (by decide +kernel) rfl rfl ?_
  refine z_callVL (pc' := 15) (S := St) (As := [.int (jI (σ 1 0)), .int (jI (σ 0 0))]) (rest := []) X dX5_whole_12 rfl (kX5_lastingUpTo l D E q σ (σ 1 0) (σ 0 0)  (hwf) (hji) (by omega)) (cwV 2 X.1.2.2.2.2 gX5_whole_X5_lastingUpTo rfl rfl rfl (by decide +kernel) ⟨Nat.le_of_ble_eq_true rfl, Nat.le_of_ble_eq_true rfl⟩) 0 rfl rfl rfl rfl (Nat.le_of_ble_eq_true rfl) (fun r12 u12 hp12 => ?_)
  obtain ⟨rfl, hp12⟩ := hp12
  obtain ⟨er12, eb12⟩ := hp12
  exact z_lret (post := (fun (rv : Int) (uu : St) => σ = uu ∧ rv = fWhole (σ 1 0) (σ 2) (σ 0 0) (σ 4 0) (σ 5) (σ 6) (σ 7) (σ 8))) X dX5_whole_15 hret σ (⟨rfl, er12⟩)
set_option maxHeartbeats 4000000 in
set_option maxRecDepth 100000 in
theorem kX5_where (l : Launch) (D : va_G) (E : Nat → Nat) (q : Nat → Nat) (σ : St) (t what : Int) (hwf : WfC σ) (hji : JI σ) (hr : (-2147483648 ≤ t ∧ t < 2147483648) ∧ (-2147483648 ≤ what ∧ what < 2147483648)) : CtI l D E yX5_where wsX5_where ({ frames := 3, cells := 0, slots := 0, locals := 77 } : Room) [.ref (q 0), .int (jI t), .int (jI what)] (CW E q σ) (CW E q) (fun (rv : Int) (uu : St) => σ = uu ∧ rv = fWhere (σ 1 0) (σ 2) (σ 0 0) (σ 4 0) (σ 5) (σ 6) (σ 7) (σ 8) t what) := by
  refine mk_I (cc := cX5_where) (maxL := 8) (ret := some .int) (by decide) rfl (Nat.le_of_ble_eq_true rfl) ?_
  intro p e s m args below meth c A X hret
  have hin5 : ∀ x ∈ u_ws RX5 TX5 6, x ∈ wsX5_where := fun _ h => List.mem_cons_of_mem _ (List.mem_append_left _ (List.mem_append_left _ (List.mem_append_right _ h)))
  have hin3 : ∀ x ∈ u_ws RX3 TX3 9, x ∈ wsX5_where := fun _ h => List.mem_cons_of_mem _ (List.mem_append_left _ (List.mem_append_right _ h))
  have hin1 : ∀ x ∈ u_ws RX1 TX1 5, x ∈ wsX5_where := fun _ h => List.mem_cons_of_mem _ (List.mem_append_right _ h)
  refine z_lv (lv' := [(0, .ref (q 0)), (1, .int (jI t)), (2, .int (jI what))]) [0, 1, 2] rfl ?_
  obtain ⟨n1, n0, n4, n16⟩ := hwf.n
  refine z_iload_n (pc' := 1) X dX5_where_0 rfl 1 rfl rfl ?_
  refine z_callPI (pc' := 4) (S := Unit) (As := [.int (jI t)]) (rest := []) X dX5_where_1 rfl (kX5_isMoment l D E t  (by omega)) (va_cwS 1 X.1.2.2.2.2 gX5_where_X5_isMoment rfl rfl rfl (by decide +kernel) ⟨Nat.le_of_ble_eq_true rfl, Nat.le_of_ble_eq_true rfl⟩) rfl rfl (Nat.le_of_ble_eq_true rfl) (fun r1 u1 hp1 => ?_)
  skip
  rcases hp1 with ⟨rfl, hp1⟩ | ⟨rfl, hp1⟩
  · refine z_if_eq (tgt := 16) (pc' := 7) X dX5_where_4 (by decide) rfl (by omega) (fun h => absurd h (by decide)) (fun _ => ?_)
    refine z_iload_n (pc' := 8) X dX5_where_7 rfl 2 rfl rfl ?_
    refine z_if_eq (tgt := 19) (pc' := 11) X dX5_where_8 (by decide) rfl (by omega) (fun h8 => ?_) (fun h8 => ?_)
    · refine z_lconst (pc' := 20) (x := 0) X dX5_where_19 rfl rfl ?_
      refine z_lstore_n (pc' := 21) (lv' := [(3, .long (jL 0)), (0, .ref (q 0)), (1, .int (jI t)), (2, .int (jI what))]) X dX5_where_20 rfl rfl (by decide) rfl ?_
      refine z_iconst (pc' := 22) X dX5_where_21 rfl ?_
      refine z_istore (pc' := 24) (lv' := [(5, .int (jI 0)), (3, .long (jL 0)), (0, .ref (q 0)), (1, .int (jI t)), (2, .int (jI what))]) X dX5_where_22 rfl (by decide) rfl ?_
      have lp24 : ∀ (nF : Nat) (x : Int) (beg : Int) , ((0 ≤ x ∧ x ≤ σ 1 0) ∧ beg = smI (lsF (σ 2) (σ 0 0) (σ 4 0) (σ 5) (σ 6) (σ 7) (σ 8)) x.toNat ∧ (0 ≤ beg ∧ beg ≤ t) ∧ (∀ j, 0 ≤ j → j < x → ¬ t < smI (lsF (σ 2) (σ 0 0) (σ 4 0) (σ 5) (σ 6) (σ 7) (σ 8)) (j + 1).toNat)) → ((7 - x).toNat : Nat) < nF → J p l e (headSpec wsX5_where ({ frames := 3, cells := 0, slots := 0, locals := 77 } : Room)).room s m args below meth c D A 8 (MQ below (va_Qi (fun r u => ∃ x, r = jI x ∧ (fun (rv : Int) (uu : St) => σ = uu ∧ rv = fWhere (σ 1 0) (σ 2) (σ 0 0) (σ 4 0) (σ 5) (σ 6) (σ 7) (σ 8) t what) x u) (Bw D (CW E q) A) A) args s 0 0 A) 24 [(5, .int (jI x)), (3, .long (jL beg)), (0, .ref (q 0)), (1, .int (jI t)), (2, .int (jI what))] [] (CW E q σ) := by
        intro nF
        induction nF with
        | zero => intro x beg  hI hn; exact absurd hn (Nat.not_lt_zero _)
        | succ nF ih24 =>
          intro x beg  hI hn
          obtain ⟨h1, h2, h3, h4⟩ := hI
          have sx := smI_succ (lsF (σ 2) (σ 0 0) (σ 4 0) (σ 5) (σ 6) (σ 7) (σ 8)) h1.1
          refine z_iload (pc' := 26) X dX5_where_24 rfl 0 rfl ?_
          refine z_aload_n (pc' := 27) X dX5_where_26 rfl 2 rfl rfl ?_
          refine z_get (pc' := 30) (C := RX5) (ref := "PivotBeats") (T := TX5) (N := 6) (v := .ref (q 36)) X dX5_where_27 rfl hin5 0 rfl rfl 0 (by decide) (by decide +kernel) rfl rfl ?_
          refine z_get (pc' := 33) (C := RX3) (ref := "PivotBeats$Piece") (T := TX3) (N := 9) (v := .int (jI (σ 1 0))) X dX5_where_30 rfl hin3 1 rfl rfl 0 (by decide) (by decide +kernel) rfl rfl ?_
          refine z_icmp_ge (tgt := 82) (pc' := 36) X dX5_where_33 (by decide) rfl (by omega) (fun h33 => ?_) (fun h33 => ?_)
          · refine z_bipush (pc' := 84) X dX5_where_82 rfl rfl ?_
            exact z_iret (post := (fun (rv : Int) (uu : St) => σ = uu ∧ rv = fWhere (σ 1 0) (σ 2) (σ 0 0) (σ 4 0) (σ 5) (σ 6) (σ 7) (σ 8) t what)) X dX5_where_84 hret σ (⟨rfl, wh_9 (by omega) (by omega) (by rw [← show x = σ 1 0 by omega]; exact h4)⟩)
          · refine z_lload_n (pc' := 37) X dX5_where_36 rfl 1 rfl rfl ?_
            refine z_aload_n (pc' := 38) X dX5_where_37 rfl 2 rfl rfl ?_
            refine z_iload (pc' := 40) X dX5_where_38 rfl 0 rfl ?_
            refine z_aload_n (pc' := 41) X dX5_where_40 rfl 2 rfl rfl ?_
            refine z_get (pc' := 44) (C := RX5) (ref := "PivotBeats") (T := TX5) (N := 6) (v := .int (jI (σ 0 0))) X dX5_where_41 rfl hin5 0 rfl rfl 5 (by decide) (by decide +kernel) rfl rfl ?_
            refine z_callVL (pc' := 47) (S := St) (As := [.int (jI x), .int (jI (σ 0 0))]) (rest := [.long (jL beg)]) X dX5_where_44 rfl (kX5_lasting l D E q σ x (σ 0 0)  (hwf) (hji) (by omega)) (cwV 2 X.1.2.2.2.2 gX5_where_X5_lasting rfl rfl rfl (by decide +kernel) ⟨Nat.le_of_ble_eq_true rfl, Nat.le_of_ble_eq_true rfl⟩) 0 rfl rfl rfl rfl (Nat.le_of_ble_eq_true rfl) (fun r44 u44 hp44 => ?_)
            obtain ⟨rfl, hp44⟩ := hp44
            obtain ⟨er44, eb44⟩ := hp44
            refine z_ladd (pc' := 48) X dX5_where_47 rfl ?_
            refine z_lstore (pc' := 50) (lv' := [(6, .long (jL (beg + r44))), (5, .int (jI x)), (3, .long (jL beg)), (0, .ref (q 0)), (1, .int (jI t)), (2, .int (jI what))]) X dX5_where_48 rfl (by decide) rfl ?_
            refine z_iload_n (pc' := 51) X dX5_where_50 rfl 4 rfl rfl ?_
            refine z_i2l (pc' := 52) X dX5_where_51 rfl (by omega) ?_
            refine z_lload (pc' := 54) X dX5_where_52 rfl 0 rfl ?_
            refine z_lcmp_ge (tgt := 73) (pc' := 58) X dX5_where_54 (pc1 := 55) rfl dX5_where_55 (by decide) rfl (by omega) (fun h54 => ?_) (fun h54 => ?_)
            · refine z_lload (pc' := 75) X dX5_where_73 rfl 0 rfl ?_
              refine z_lstore_n (pc' := 76) (lv' := [(3, .long (jL (beg + r44))), (6, .long (jL (beg + r44))), (5, .int (jI x)), (0, .ref (q 0)), (1, .int (jI t)), (2, .int (jI what))]) X dX5_where_75 rfl rfl (by decide) rfl ?_
              refine z_iinc (pc' := 79) (lv' := [(5, .int (jI (x + 1))), (3, .long (jL (beg + r44))), (6, .long (jL (beg + r44))), (0, .ref (q 0)), (1, .int (jI t)), (2, .int (jI what))]) X dX5_where_76 rfl 2 rfl (by decide) rfl ?_
              refine z_goto (tgt := 24) X dX5_where_79 (by decide) ?_
              refine z_lv (lv' := [(5, .int (jI (x + 1))), (3, .long (jL (beg + r44))), (0, .ref (q 0)), (1, .int (jI t)), (2, .int (jI what))]) [0, 1, 3, 4, 5] rfl ?_
              exact ih24 (x + 1) (beg + r44)  (⟨by omega, by rw [sx, ← h2, er44], by omega, wh_step h4 (by rw [sx, ← h2, ← er44]; omega)⟩) (by omega)
            · refine z_iload_n (pc' := 59) X dX5_where_58 rfl 5 rfl rfl ?_
              refine z_if_ne (tgt := 67) (pc' := 62) X dX5_where_59 (by decide) rfl (by omega) (fun h59 => ?_) (fun h59 => ?_)
              · refine z_iload_n (pc' := 68) X dX5_where_67 rfl 4 rfl rfl ?_
                refine z_i2l (pc' := 69) X dX5_where_68 rfl (by omega) ?_
                refine z_lload_n (pc' := 70) X dX5_where_69 rfl 2 rfl rfl ?_
                refine z_lsub (pc' := 71) X dX5_where_70 rfl ?_
                refine z_l2i (pc' := 72) X dX5_where_71 rfl ?_
                exact z_iret (post := (fun (rv : Int) (uu : St) => σ = uu ∧ rv = fWhere (σ 1 0) (σ 2) (σ 0 0) (σ 4 0) (σ 5) (σ 6) (σ 7) (σ 8) t what)) X dX5_where_72 hret σ (by first | exact ⟨rfl, wh_a (by omega) (by omega) h59 (by omega) (by omega) (by rw [sx, ← h2, ← er44]; omega) h4⟩ | exact ⟨rfl, wh_b (by omega) (by omega) h59 (by omega) (by omega) (by rw [sx, ← h2, ← er44]; omega) h4 (by rw [h2])⟩)
              · refine z_iload (pc' := 64) X dX5_where_62 rfl 1 rfl ?_
                refine z_goto (tgt := 72) X dX5_where_64 (by decide) ?_
                exact z_iret (post := (fun (rv : Int) (uu : St) => σ = uu ∧ rv = fWhere (σ 1 0) (σ 2) (σ 0 0) (σ 4 0) (σ 5) (σ 6) (σ 7) (σ 8) t what)) X dX5_where_72 hret σ (by first | exact ⟨rfl, wh_a (by omega) (by omega) h59 (by omega) (by omega) (by rw [sx, ← h2, ← er44]; omega) h4⟩ | exact ⟨rfl, wh_b (by omega) (by omega) h59 (by omega) (by omega) (by rw [sx, ← h2, ← er44]; omega) h4 (by rw [h2])⟩)
      exact lp24 _ 0 0  (⟨by omega, rfl, by omega, fun j h1 h2 => by omega⟩) (Nat.lt_succ_self _)
    · refine z_iload_n (pc' := 12) X dX5_where_11 rfl 2 rfl rfl ?_
      refine z_iconst (pc' := 13) X dX5_where_12 rfl ?_
      refine z_icmp_eq (tgt := 19) (pc' := 16) X dX5_where_13 (by decide) rfl (by omega) (fun h13 => ?_) (fun h13 => ?_)
      · refine z_lconst (pc' := 20) (x := 0) X dX5_where_19 rfl rfl ?_
        refine z_lstore_n (pc' := 21) (lv' := [(3, .long (jL 0)), (0, .ref (q 0)), (1, .int (jI t)), (2, .int (jI what))]) X dX5_where_20 rfl rfl (by decide) rfl ?_
        refine z_iconst (pc' := 22) X dX5_where_21 rfl ?_
        refine z_istore (pc' := 24) (lv' := [(5, .int (jI 0)), (3, .long (jL 0)), (0, .ref (q 0)), (1, .int (jI t)), (2, .int (jI what))]) X dX5_where_22 rfl (by decide) rfl ?_
        have lp24 : ∀ (nF : Nat) (x : Int) (beg : Int) , ((0 ≤ x ∧ x ≤ σ 1 0) ∧ beg = smI (lsF (σ 2) (σ 0 0) (σ 4 0) (σ 5) (σ 6) (σ 7) (σ 8)) x.toNat ∧ (0 ≤ beg ∧ beg ≤ t) ∧ (∀ j, 0 ≤ j → j < x → ¬ t < smI (lsF (σ 2) (σ 0 0) (σ 4 0) (σ 5) (σ 6) (σ 7) (σ 8)) (j + 1).toNat)) → ((7 - x).toNat : Nat) < nF → J p l e (headSpec wsX5_where ({ frames := 3, cells := 0, slots := 0, locals := 77 } : Room)).room s m args below meth c D A 8 (MQ below (va_Qi (fun r u => ∃ x, r = jI x ∧ (fun (rv : Int) (uu : St) => σ = uu ∧ rv = fWhere (σ 1 0) (σ 2) (σ 0 0) (σ 4 0) (σ 5) (σ 6) (σ 7) (σ 8) t what) x u) (Bw D (CW E q) A) A) args s 0 0 A) 24 [(5, .int (jI x)), (3, .long (jL beg)), (0, .ref (q 0)), (1, .int (jI t)), (2, .int (jI what))] [] (CW E q σ) := by
          intro nF
          induction nF with
          | zero => intro x beg  hI hn; exact absurd hn (Nat.not_lt_zero _)
          | succ nF ih24 =>
            intro x beg  hI hn
            obtain ⟨h1, h2, h3, h4⟩ := hI
            have sx := smI_succ (lsF (σ 2) (σ 0 0) (σ 4 0) (σ 5) (σ 6) (σ 7) (σ 8)) h1.1
            refine z_iload (pc' := 26) X dX5_where_24 rfl 0 rfl ?_
            refine z_aload_n (pc' := 27) X dX5_where_26 rfl 2 rfl rfl ?_
            refine z_get (pc' := 30) (C := RX5) (ref := "PivotBeats") (T := TX5) (N := 6) (v := .ref (q 36)) X dX5_where_27 rfl hin5 0 rfl rfl 0 (by decide) (by decide +kernel) rfl rfl ?_
            refine z_get (pc' := 33) (C := RX3) (ref := "PivotBeats$Piece") (T := TX3) (N := 9) (v := .int (jI (σ 1 0))) X dX5_where_30 rfl hin3 1 rfl rfl 0 (by decide) (by decide +kernel) rfl rfl ?_
            refine z_icmp_ge (tgt := 82) (pc' := 36) X dX5_where_33 (by decide) rfl (by omega) (fun h33 => ?_) (fun h33 => ?_)
            · refine z_bipush (pc' := 84) X dX5_where_82 rfl rfl ?_
              exact z_iret (post := (fun (rv : Int) (uu : St) => σ = uu ∧ rv = fWhere (σ 1 0) (σ 2) (σ 0 0) (σ 4 0) (σ 5) (σ 6) (σ 7) (σ 8) t what)) X dX5_where_84 hret σ (⟨rfl, wh_9 (by omega) (by omega) (by rw [← show x = σ 1 0 by omega]; exact h4)⟩)
            · refine z_lload_n (pc' := 37) X dX5_where_36 rfl 1 rfl rfl ?_
              refine z_aload_n (pc' := 38) X dX5_where_37 rfl 2 rfl rfl ?_
              refine z_iload (pc' := 40) X dX5_where_38 rfl 0 rfl ?_
              refine z_aload_n (pc' := 41) X dX5_where_40 rfl 2 rfl rfl ?_
              refine z_get (pc' := 44) (C := RX5) (ref := "PivotBeats") (T := TX5) (N := 6) (v := .int (jI (σ 0 0))) X dX5_where_41 rfl hin5 0 rfl rfl 5 (by decide) (by decide +kernel) rfl rfl ?_
              refine z_callVL (pc' := 47) (S := St) (As := [.int (jI x), .int (jI (σ 0 0))]) (rest := [.long (jL beg)]) X dX5_where_44 rfl (kX5_lasting l D E q σ x (σ 0 0)  (hwf) (hji) (by omega)) (cwV 2 X.1.2.2.2.2 gX5_where_X5_lasting rfl rfl rfl (by decide +kernel) ⟨Nat.le_of_ble_eq_true rfl, Nat.le_of_ble_eq_true rfl⟩) 0 rfl rfl rfl rfl (Nat.le_of_ble_eq_true rfl) (fun r44 u44 hp44 => ?_)
              obtain ⟨rfl, hp44⟩ := hp44
              obtain ⟨er44, eb44⟩ := hp44
              refine z_ladd (pc' := 48) X dX5_where_47 rfl ?_
              refine z_lstore (pc' := 50) (lv' := [(6, .long (jL (beg + r44))), (5, .int (jI x)), (3, .long (jL beg)), (0, .ref (q 0)), (1, .int (jI t)), (2, .int (jI what))]) X dX5_where_48 rfl (by decide) rfl ?_
              refine z_iload_n (pc' := 51) X dX5_where_50 rfl 4 rfl rfl ?_
              refine z_i2l (pc' := 52) X dX5_where_51 rfl (by omega) ?_
              refine z_lload (pc' := 54) X dX5_where_52 rfl 0 rfl ?_
              refine z_lcmp_ge (tgt := 73) (pc' := 58) X dX5_where_54 (pc1 := 55) rfl dX5_where_55 (by decide) rfl (by omega) (fun h54 => ?_) (fun h54 => ?_)
              · refine z_lload (pc' := 75) X dX5_where_73 rfl 0 rfl ?_
                refine z_lstore_n (pc' := 76) (lv' := [(3, .long (jL (beg + r44))), (6, .long (jL (beg + r44))), (5, .int (jI x)), (0, .ref (q 0)), (1, .int (jI t)), (2, .int (jI what))]) X dX5_where_75 rfl rfl (by decide) rfl ?_
                refine z_iinc (pc' := 79) (lv' := [(5, .int (jI (x + 1))), (3, .long (jL (beg + r44))), (6, .long (jL (beg + r44))), (0, .ref (q 0)), (1, .int (jI t)), (2, .int (jI what))]) X dX5_where_76 rfl 2 rfl (by decide) rfl ?_
                refine z_goto (tgt := 24) X dX5_where_79 (by decide) ?_
                refine z_lv (lv' := [(5, .int (jI (x + 1))), (3, .long (jL (beg + r44))), (0, .ref (q 0)), (1, .int (jI t)), (2, .int (jI what))]) [0, 1, 3, 4, 5] rfl ?_
                exact ih24 (x + 1) (beg + r44)  (⟨by omega, by rw [sx, ← h2, er44], by omega, wh_step h4 (by rw [sx, ← h2, ← er44]; omega)⟩) (by omega)
              · refine z_iload_n (pc' := 59) X dX5_where_58 rfl 5 rfl rfl ?_
                refine z_if_ne (tgt := 67) (pc' := 62) X dX5_where_59 (by decide) rfl (by omega) (fun h59 => ?_) (fun h59 => ?_)
                · refine z_iload_n (pc' := 68) X dX5_where_67 rfl 4 rfl rfl ?_
                  refine z_i2l (pc' := 69) X dX5_where_68 rfl (by omega) ?_
                  refine z_lload_n (pc' := 70) X dX5_where_69 rfl 2 rfl rfl ?_
                  refine z_lsub (pc' := 71) X dX5_where_70 rfl ?_
                  refine z_l2i (pc' := 72) X dX5_where_71 rfl ?_
                  exact z_iret (post := (fun (rv : Int) (uu : St) => σ = uu ∧ rv = fWhere (σ 1 0) (σ 2) (σ 0 0) (σ 4 0) (σ 5) (σ 6) (σ 7) (σ 8) t what)) X dX5_where_72 hret σ (by first | exact ⟨rfl, wh_a (by omega) (by omega) h59 (by omega) (by omega) (by rw [sx, ← h2, ← er44]; omega) h4⟩ | exact ⟨rfl, wh_b (by omega) (by omega) h59 (by omega) (by omega) (by rw [sx, ← h2, ← er44]; omega) h4 (by rw [h2])⟩)
                · refine z_iload (pc' := 64) X dX5_where_62 rfl 1 rfl ?_
                  refine z_goto (tgt := 72) X dX5_where_64 (by decide) ?_
                  exact z_iret (post := (fun (rv : Int) (uu : St) => σ = uu ∧ rv = fWhere (σ 1 0) (σ 2) (σ 0 0) (σ 4 0) (σ 5) (σ 6) (σ 7) (σ 8) t what)) X dX5_where_72 hret σ (by first | exact ⟨rfl, wh_a (by omega) (by omega) h59 (by omega) (by omega) (by rw [sx, ← h2, ← er44]; omega) h4⟩ | exact ⟨rfl, wh_b (by omega) (by omega) h59 (by omega) (by omega) (by rw [sx, ← h2, ← er44]; omega) h4 (by rw [h2])⟩)
        exact lp24 _ 0 0  (⟨by omega, rfl, by omega, fun j h1 h2 => by omega⟩) (Nat.lt_succ_self _)
      · refine z_bipush (pc' := 18) X dX5_where_16 rfl rfl ?_
        exact z_iret (post := (fun (rv : Int) (uu : St) => σ = uu ∧ rv = fWhere (σ 1 0) (σ 2) (σ 0 0) (σ 4 0) (σ 5) (σ 6) (σ 7) (σ 8) t what)) X dX5_where_18 hret σ (⟨rfl, by unfold fWhere; rw [if_neg (by omega)]⟩)
  · refine z_if_eq (tgt := 16) (pc' := 7) X dX5_where_4 (by decide) rfl (by omega) (fun _ => ?_) (fun h => absurd h (by decide))
    refine z_bipush (pc' := 18) X dX5_where_16 rfl rfl ?_
    exact z_iret (post := (fun (rv : Int) (uu : St) => σ = uu ∧ rv = fWhere (σ 1 0) (σ 2) (σ 0 0) (σ 4 0) (σ 5) (σ 6) (σ 7) (σ 8) t what)) X dX5_where_18 hret σ (⟨rfl, by unfold fWhere; rw [if_neg (by omega)]⟩)
set_option maxHeartbeats 4000000 in
set_option maxRecDepth 100000 in
theorem kX5_within (l : Launch) (D : va_G) (E : Nat → Nat) (q : Nat → Nat) (σ : St) (t : Int) (hwf : WfC σ) (hji : JI σ) (hr : (-2147483648 ≤ t ∧ t < 2147483648)) : CtI l D E yX5_within wsX5_within ({ frames := 4, cells := 0, slots := 0, locals := 102 } : Room) [.ref (q 0), .int (jI t)] (CW E q σ) (CW E q) (fun (rv : Int) (uu : St) => σ = uu ∧ (fWithin (σ 1 0) (σ 2) (σ 4 0) (σ 5) (σ 6) (σ 7) (σ 8) t rv)) := by
  refine mk_I (cc := cX5_within) (maxL := 5) (ret := some .int) (by decide) rfl (Nat.le_of_ble_eq_true rfl) ?_
  intro p e s m args below meth c A X hret
  have hin5 : ∀ x ∈ u_ws RX5 TX5 6, x ∈ wsX5_within := fun _ h => List.mem_cons_of_mem _ (List.mem_append_left _ (List.mem_append_left _ (List.mem_append_right _ h)))
  have hin3 : ∀ x ∈ u_ws RX3 TX3 9, x ∈ wsX5_within := fun _ h => List.mem_cons_of_mem _ (List.mem_append_left _ (List.mem_append_right _ h))
  have hin1 : ∀ x ∈ u_ws RX1 TX1 5, x ∈ wsX5_within := fun _ h => List.mem_cons_of_mem _ (List.mem_append_right _ h)
  refine z_lv (lv' := [(0, .ref (q 0)), (1, .int (jI t))]) [0, 1] rfl ?_
  obtain ⟨n1, n0, n4, n16⟩ := hwf.n
  refine z_iload_n (pc' := 1) X dX5_within_0 rfl 1 rfl rfl ?_
  refine z_callPI (pc' := 4) (S := Unit) (As := [.int (jI t)]) (rest := []) X dX5_within_1 rfl (kX5_isMoment l D E t  (by omega)) (va_cwS 1 X.1.2.2.2.2 gX5_within_X5_isMoment rfl rfl rfl (by decide +kernel) ⟨Nat.le_of_ble_eq_true rfl, Nat.le_of_ble_eq_true rfl⟩) rfl rfl (Nat.le_of_ble_eq_true rfl) (fun r1 u1 hp1 => ?_)
  skip
  rcases hp1 with ⟨rfl, hp1⟩ | ⟨rfl, hp1⟩
  · refine z_if_ne (tgt := 10) (pc' := 7) X dX5_within_4 (by decide) rfl (by omega) (fun _ => ?_) (fun h => absurd h (by decide))
    refine z_bipush (pc' := 12) X dX5_within_10 rfl rfl ?_
    refine z_istore_n (pc' := 13) (lv' := [(2, .int (jI 19)), (0, .ref (q 0)), (1, .int (jI t))]) X dX5_within_12 rfl rfl (by decide) rfl ?_
    refine z_sipush (pc' := 16) X dX5_within_13 rfl rfl ?_
    refine z_istore_n (pc' := 17) (lv' := [(3, .int (jI 256)), (2, .int (jI 19)), (0, .ref (q 0)), (1, .int (jI t))]) X dX5_within_16 rfl rfl (by decide) rfl ?_
    have lp17 : ∀ (nF : Nat) (step : Int) (ts : Int) , ((19 ≤ ts ∧ ts ≤ 400) ∧ (step = 0 ∨ step = 1 ∨ step = 2 ∨ step = 4 ∨ step = 8 ∨ step = 16 ∨ step = 32 ∨ step = 64 ∨ step = 128 ∨ step = 256) ∧ (∀ y, 20 ≤ y → y ≤ ts → t < smI (lsF (σ 2) y (σ 4 0) (σ 5) (σ 6) (σ 7) (σ 8)) (σ 1 0).toNat) ∧ (∀ y, y ≤ 400 → ts + 2 * step ≤ y → ts + 1 ≤ y → smI (lsF (σ 2) y (σ 4 0) (σ 5) (σ 6) (σ 7) (σ 8)) (σ 1 0).toNat ≤ t)) → (step.toNat : Nat) < nF → J p l e (headSpec wsX5_within ({ frames := 4, cells := 0, slots := 0, locals := 102 } : Room)).room s m args below meth c D A 5 (MQ below (va_Qi (fun r u => ∃ x, r = jI x ∧ (fun (rv : Int) (uu : St) => σ = uu ∧ (fWithin (σ 1 0) (σ 2) (σ 4 0) (σ 5) (σ 6) (σ 7) (σ 8) t rv)) x u) (Bw D (CW E q) A) A) args s 0 0 A) 17 [(3, .int (jI step)), (2, .int (jI ts)), (0, .ref (q 0)), (1, .int (jI t))] [] (CW E q σ) := by
      intro nF
      induction nF with
      | zero => intro step ts  hI hn; exact absurd hn (Nat.not_lt_zero _)
      | succ nF ih17 =>
        intro step ts  hI hn
        obtain ⟨g1, g2, g3, g4⟩ := hI
        refine z_iload_n (pc' := 18) X dX5_within_17 rfl 0 rfl rfl ?_
        refine z_if_le (tgt := 63) (pc' := 21) X dX5_within_18 (by decide) rfl (by omega) (fun h18 => ?_) (fun h18 => ?_)
        · refine z_iload_n (pc' := 64) X dX5_within_63 rfl 1 rfl rfl ?_
          refine z_sipush (pc' := 67) X dX5_within_64 rfl rfl ?_
          refine z_icmp_ge (tgt := 76) (pc' := 70) X dX5_within_67 (by decide) rfl (by omega) (fun h67 => ?_) (fun h67 => ?_)
          · refine z_bipush (pc' := 78) X dX5_within_76 rfl rfl ?_
            exact z_iret (post := (fun (rv : Int) (uu : St) => σ = uu ∧ (fWithin (σ 1 0) (σ 2) (σ 4 0) (σ 5) (σ 6) (σ 7) (σ 8) t rv))) X dX5_within_78 hret σ (by first | exact ⟨rfl, Or.inr (Or.inl ⟨hp1, by omega, g4 _ (by omega) (by omega) (by omega), fun y y0 y1 => g3 y y0 (by omega)⟩)⟩ | exact ⟨rfl, Or.inl ⟨hp1, rfl, fun y y0 y1 => g3 y y0 (by omega)⟩⟩)
          · refine z_iload_n (pc' := 71) X dX5_within_70 rfl 1 rfl rfl ?_
            refine z_iconst (pc' := 72) X dX5_within_71 rfl ?_
            refine z_iadd (pc' := 73) X dX5_within_72 rfl ?_
            refine z_goto (tgt := 78) X dX5_within_73 (by decide) ?_
            exact z_iret (post := (fun (rv : Int) (uu : St) => σ = uu ∧ (fWithin (σ 1 0) (σ 2) (σ 4 0) (σ 5) (σ 6) (σ 7) (σ 8) t rv))) X dX5_within_78 hret σ (by first | exact ⟨rfl, Or.inr (Or.inl ⟨hp1, by omega, g4 _ (by omega) (by omega) (by omega), fun y y0 y1 => g3 y y0 (by omega)⟩)⟩ | exact ⟨rfl, Or.inl ⟨hp1, rfl, fun y y0 y1 => g3 y y0 (by omega)⟩⟩)
        · refine z_iload_n (pc' := 22) X dX5_within_21 rfl 1 rfl rfl ?_
          refine z_iload_n (pc' := 23) X dX5_within_22 rfl 0 rfl rfl ?_
          refine z_iadd (pc' := 24) X dX5_within_23 rfl ?_
          refine z_istore (pc' := 26) (lv' := [(4, .int (jI (ts + step))), (3, .int (jI step)), (2, .int (jI ts)), (0, .ref (q 0)), (1, .int (jI t))]) X dX5_within_24 rfl (by decide) rfl ?_
          refine z_iload (pc' := 28) X dX5_within_26 rfl 0 rfl ?_
          refine z_sipush (pc' := 31) X dX5_within_28 rfl rfl ?_
          refine z_icmp_gt (tgt := 56) (pc' := 34) X dX5_within_31 (by decide) rfl (by omega) (fun h31 => ?_) (fun h31 => ?_)
          · refine z_iload_n (pc' := 57) X dX5_within_56 rfl 1 rfl rfl ?_
            refine z_iconst (pc' := 58) X dX5_within_57 rfl ?_
            refine z_idiv (pc' := 59) X dX5_within_58 rfl (by omega) ?_
            refine z_istore_n (pc' := 60) (lv' := [(3, .int (jI (step / 2))), (4, .int (jI (ts + step))), (2, .int (jI ts)), (0, .ref (q 0)), (1, .int (jI t))]) X dX5_within_59 rfl rfl (by decide) rfl ?_
            refine z_goto (tgt := 17) X dX5_within_60 (by decide) ?_
            refine z_lv (lv' := [(3, .int (jI (step / 2))), (2, .int (jI ts)), (0, .ref (q 0)), (1, .int (jI t))]) [0, 2, 3, 4] rfl ?_
            exact ih17 (step / 2) ts  (by first | exact ⟨by omega, by omega, g3, fun y y0 y1 y2 => by omega⟩ | exact ⟨by omega, by omega, g3, wiB hwf h49 er44 (by omega)⟩ | exact ⟨by omega, by omega, wiA hwf h49 er44, wiC g4⟩) (by omega)
          · refine z_aload_n (pc' := 35) X dX5_within_34 rfl 3 rfl rfl ?_
            refine z_aload_n (pc' := 36) X dX5_within_35 rfl 3 rfl rfl ?_
            refine z_get (pc' := 39) (C := RX5) (ref := "PivotBeats") (T := TX5) (N := 6) (v := .ref (q 36)) X dX5_within_36 rfl hin5 0 rfl rfl 0 (by decide) (by decide +kernel) rfl rfl ?_
            refine z_get (pc' := 42) (C := RX3) (ref := "PivotBeats$Piece") (T := TX3) (N := 9) (v := .int (jI (σ 1 0))) X dX5_within_39 rfl hin3 1 rfl rfl 0 (by decide) (by decide +kernel) rfl rfl ?_
            refine z_iload (pc' := 44) X dX5_within_42 rfl 0 rfl ?_
            refine z_callVL (pc' := 47) (S := St) (As := [.int (jI (σ 1 0)), .int (jI (ts + step))]) (rest := []) X dX5_within_44 rfl (kX5_lastingUpTo l D E q σ (σ 1 0) (ts + step)  (hwf) (hji) (by omega)) (cwV 2 X.1.2.2.2.2 gX5_within_X5_lastingUpTo rfl rfl rfl (by decide +kernel) ⟨Nat.le_of_ble_eq_true rfl, Nat.le_of_ble_eq_true rfl⟩) 0 rfl rfl rfl rfl (Nat.le_of_ble_eq_true rfl) (fun r44 u44 hp44 => ?_)
            obtain ⟨rfl, hp44⟩ := hp44
            obtain ⟨er44, eb44⟩ := hp44
            refine z_iload_n (pc' := 48) X dX5_within_47 rfl 4 rfl rfl ?_
            refine z_i2l (pc' := 49) X dX5_within_48 rfl (by omega) ?_
            refine z_lcmp_le (tgt := 56) (pc' := 53) X dX5_within_49 (pc1 := 50) rfl dX5_within_50 (by decide) rfl (by omega) (fun h49 => ?_) (fun h49 => ?_)
            · refine z_iload_n (pc' := 57) X dX5_within_56 rfl 1 rfl rfl ?_
              refine z_iconst (pc' := 58) X dX5_within_57 rfl ?_
              refine z_idiv (pc' := 59) X dX5_within_58 rfl (by omega) ?_
              refine z_istore_n (pc' := 60) (lv' := [(3, .int (jI (step / 2))), (4, .int (jI (ts + step))), (2, .int (jI ts)), (0, .ref (q 0)), (1, .int (jI t))]) X dX5_within_59 rfl rfl (by decide) rfl ?_
              refine z_goto (tgt := 17) X dX5_within_60 (by decide) ?_
              refine z_lv (lv' := [(3, .int (jI (step / 2))), (2, .int (jI ts)), (0, .ref (q 0)), (1, .int (jI t))]) [0, 2, 3, 4] rfl ?_
              exact ih17 (step / 2) ts  (by first | exact ⟨by omega, by omega, g3, fun y y0 y1 y2 => by omega⟩ | exact ⟨by omega, by omega, g3, wiB hwf h49 er44 (by omega)⟩ | exact ⟨by omega, by omega, wiA hwf h49 er44, wiC g4⟩) (by omega)
            · refine z_iload (pc' := 55) X dX5_within_53 rfl 0 rfl ?_
              refine z_istore_n (pc' := 56) (lv' := [(2, .int (jI (ts + step))), (4, .int (jI (ts + step))), (3, .int (jI step)), (0, .ref (q 0)), (1, .int (jI t))]) X dX5_within_55 rfl rfl (by decide) rfl ?_
              refine z_iload_n (pc' := 57) X dX5_within_56 rfl 2 rfl rfl ?_
              refine z_iconst (pc' := 58) X dX5_within_57 rfl ?_
              refine z_idiv (pc' := 59) X dX5_within_58 rfl (by omega) ?_
              refine z_istore_n (pc' := 60) (lv' := [(3, .int (jI (step / 2))), (2, .int (jI (ts + step))), (4, .int (jI (ts + step))), (0, .ref (q 0)), (1, .int (jI t))]) X dX5_within_59 rfl rfl (by decide) rfl ?_
              refine z_goto (tgt := 17) X dX5_within_60 (by decide) ?_
              refine z_lv (lv' := [(3, .int (jI (step / 2))), (2, .int (jI (ts + step))), (0, .ref (q 0)), (1, .int (jI t))]) [0, 1, 3, 4] rfl ?_
              exact ih17 (step / 2) (ts + step)  (by first | exact ⟨by omega, by omega, g3, fun y y0 y1 y2 => by omega⟩ | exact ⟨by omega, by omega, g3, wiB hwf h49 er44 (by omega)⟩ | exact ⟨by omega, by omega, wiA hwf h49 er44, wiC g4⟩) (by omega)
    exact lp17 _ 256 19  (⟨by omega, by omega, fun y h1 h2 => by omega, fun y h1 h2 => by omega⟩) (Nat.lt_succ_self _)
  · refine z_if_ne (tgt := 10) (pc' := 7) X dX5_within_4 (by decide) rfl (by omega) (fun h => absurd h (by decide)) (fun _ => ?_)
    refine z_bipush (pc' := 9) X dX5_within_7 rfl rfl ?_
    exact z_iret (post := (fun (rv : Int) (uu : St) => σ = uu ∧ (fWithin (σ 1 0) (σ 2) (σ 4 0) (σ 5) (σ 6) (σ 7) (σ 8) t rv))) X dX5_within_9 hret σ (⟨rfl, Or.inr (Or.inr ⟨hp1, rfl⟩)⟩)
set_option maxHeartbeats 4000000 in
set_option maxRecDepth 100000 in
theorem kX5_pivot (l : Launch) (D : va_G) (E : Nat → Nat) (q : Nat → Nat) (σ : St) (s_ q_ k : Int) (hwf : WfC σ) (hji : JI σ) (hr : (-2147483648 ≤ s_ ∧ s_ < 2147483648) ∧ (-2147483648 ≤ q_ ∧ q_ < 2147483648) ∧ (-2147483648 ≤ k ∧ k < 2147483648)) : CtI l D E yX5_pivot wsX5_pivot ({ frames := 3, cells := 0, slots := 0, locals := 73 } : Room) [.ref (q 0), .int (jI s_), .int (jI q_), .int (jI k)] (CW E q σ) (CW E q) (fun (rv : Int) (uu : St) => σ = uu ∧ (fPivot (σ 1 0) (σ 0 0) (σ 4 0) (σ 5) (σ 6) (σ 7) (σ 8) s_ q_ k rv)) := by
  refine mk_I (cc := cX5_pivot) (maxL := 11) (ret := some .int) (by decide) rfl (Nat.le_of_ble_eq_true rfl) ?_
  intro p e s m args below meth c A X hret
  have hin5 : ∀ x ∈ u_ws RX5 TX5 6, x ∈ wsX5_pivot := fun _ h => List.mem_cons_of_mem _ (List.mem_append_left _ (List.mem_append_left _ (List.mem_append_right _ h)))
  have hin3 : ∀ x ∈ u_ws RX3 TX3 9, x ∈ wsX5_pivot := fun _ h => List.mem_cons_of_mem _ (List.mem_append_left _ (List.mem_append_right _ h))
  have hin1 : ∀ x ∈ u_ws RX1 TX1 5, x ∈ wsX5_pivot := fun _ h => List.mem_cons_of_mem _ (List.mem_append_right _ h)
  refine z_lv (lv' := [(0, .ref (q 0)), (1, .int (jI s_)), (2, .int (jI q_)), (3, .int (jI k))]) [0, 1, 2, 3] rfl ?_
  obtain ⟨n1, n0, n4, n16⟩ := hwf.n
  refine z_aload_n (pc' := 1) X dX5_pivot_0 rfl 0 rfl rfl ?_
  refine z_iload_n (pc' := 2) X dX5_pivot_1 rfl 1 rfl rfl ?_
  refine z_callVI (pc' := 5) (S := St) (As := [.int (jI s_)]) (rest := []) X dX5_pivot_2 rfl (kX5_isSection l D E q σ s_  (hwf) (by omega)) (cwV 1 X.1.2.2.2.2 gX5_pivot_X5_isSection rfl rfl rfl (by decide +kernel) ⟨Nat.le_of_ble_eq_true rfl, Nat.le_of_ble_eq_true rfl⟩) 0 rfl rfl rfl rfl (Nat.le_of_ble_eq_true rfl) (fun r2 u2 hp2 => ?_)
  obtain ⟨rfl, hp2⟩ := hp2
  rcases hp2 with ⟨rfl, hp2⟩ | ⟨rfl, hp2⟩
  · refine z_if_ne (tgt := 10) (pc' := 8) X dX5_pivot_5 (by decide) rfl (by omega) (fun _ => ?_) (fun h => absurd h (by decide))
    refine z_iload_n (pc' := 11) X dX5_pivot_10 rfl 2 rfl rfl ?_
    refine z_callPI (pc' := 14) (S := Unit) (As := [.int (jI q_)]) (rest := []) X dX5_pivot_11 rfl (kX5_isWholeTempo l D E q_  (by omega)) (va_cwS 1 X.1.2.2.2.2 gX5_pivot_X5_isWholeTempo rfl rfl rfl (by decide +kernel) ⟨Nat.le_of_ble_eq_true rfl, Nat.le_of_ble_eq_true rfl⟩) rfl rfl (Nat.le_of_ble_eq_true rfl) (fun r11 u11 hp11 => ?_)
    skip
    rcases hp11 with ⟨rfl, hp11⟩ | ⟨rfl, hp11⟩
    · refine z_if_eq (tgt := 29) (pc' := 17) X dX5_pivot_14 (by decide) rfl (by omega) (fun h => absurd h (by decide)) (fun _ => ?_)
      refine z_iload_n (pc' := 18) X dX5_pivot_17 rfl 3 rfl rfl ?_
      refine z_iconst (pc' := 19) X dX5_pivot_18 rfl ?_
      refine z_icmp_lt (tgt := 29) (pc' := 22) X dX5_pivot_19 (by decide) rfl (by omega) (fun h19 => ?_) (fun h19 => ?_)
      · refine z_bipush (pc' := 31) X dX5_pivot_29 rfl rfl ?_
        exact z_iret (post := (fun (rv : Int) (uu : St) => σ = uu ∧ (fPivot (σ 1 0) (σ 0 0) (σ 4 0) (σ 5) (σ 6) (σ 7) (σ 8) s_ q_ k rv))) X dX5_pivot_31 hret σ (⟨rfl, Or.inr (Or.inl ⟨hp2, by omega, rfl⟩)⟩)
      · refine z_iload_n (pc' := 23) X dX5_pivot_22 rfl 3 rfl rfl ?_
        refine z_sipush (pc' := 26) X dX5_pivot_23 rfl rfl ?_
        refine z_icmp_le (tgt := 32) (pc' := 29) X dX5_pivot_26 (by decide) rfl (by omega) (fun h26 => ?_) (fun h26 => ?_)
        · have js := hji.g hwf (s := s_) (by omega)
          have j0 := hji.g hwf (s := 0) (by omega)
          have pl : σ 10 s_ = 0 ↔ jS (σ 5) (σ 6) (σ 7) (σ 8) (σ 4 0).toNat 0 s_ = jS (σ 5) (σ 6) (σ 7) (σ 8) (σ 4 0).toNat 0 0 := by rw [js.1, jS_00 hwf.tok]
          refine z_aload_n (pc' := 33) X dX5_pivot_32 rfl 0 rfl rfl ?_
          refine z_get (pc' := 36) (C := RX5) (ref := "PivotBeats") (T := TX5) (N := 6) (v := .ref (q 37)) X dX5_pivot_33 rfl hin5 0 rfl rfl 1 (by decide) (by decide +kernel) rfl rfl ?_
          refine z_iload_n (pc' := 37) X dX5_pivot_36 rfl 1 rfl rfl ?_
          refine z_callVI (pc' := 40) (S := St) (As := [.int (jI s_)]) (rest := []) X dX5_pivot_37 rfl (kX1_isPlayed l D E q σ s_  (by omega)) (cwV 1 X.1.2.2.2.2 gX5_pivot_X1_isPlayed rfl rfl rfl (by decide +kernel) ⟨Nat.le_of_ble_eq_true rfl, Nat.le_of_ble_eq_true rfl⟩) 2 rfl rfl rfl rfl (Nat.le_of_ble_eq_true rfl) (fun r37 u37 hp37 => ?_)
          obtain ⟨rfl, hp37⟩ := hp37
          rcases hp37 with ⟨rfl, hp37⟩ | ⟨rfl, hp37⟩
          · refine z_if_ne (tgt := 46) (pc' := 43) X dX5_pivot_40 (by decide) rfl (by omega) (fun _ => ?_) (fun h => absurd h (by decide))
            have jj := pl.mp hp37
            have rb := rUL_bd (st := σ 0 0) rfl hwf.tok (s := s_) (by omega) jj n0
            refine z_aload_n (pc' := 47) X dX5_pivot_46 rfl 0 rfl rfl ?_
            refine z_iload_n (pc' := 48) X dX5_pivot_47 rfl 1 rfl rfl ?_
            refine z_iconst (pc' := 49) X dX5_pivot_48 rfl ?_
            refine z_callVL (pc' := 52) (S := St) (As := [.int (jI s_), .int (jI 0)]) (rest := []) X dX5_pivot_49 rfl (kX5_tempoPart l D E q σ s_ 0  (hwf) (hji) (by omega)) (cwV 2 X.1.2.2.2.2 gX5_pivot_X5_tempoPart rfl rfl rfl (by decide +kernel) ⟨Nat.le_of_ble_eq_true rfl, Nat.le_of_ble_eq_true rfl⟩) 0 rfl rfl rfl rfl (Nat.le_of_ble_eq_true rfl) (fun r49 u49 hp49 => ?_)
            obtain ⟨rfl, e49⟩ := hp49
            rw [if_pos rfl] at e49
            refine z_lstore (pc' := 54) (lv' := [(4, .long (jL r49)), (0, .ref (q 0)), (1, .int (jI s_)), (2, .int (jI q_)), (3, .int (jI k))]) X dX5_pivot_52 rfl (by decide) rfl ?_
            refine z_iload_n (pc' := 55) X dX5_pivot_54 rfl 3 rfl rfl ?_
            refine z_i2l (pc' := 56) X dX5_pivot_55 rfl (by omega) ?_
            refine z_aload_n (pc' := 57) X dX5_pivot_56 rfl 1 rfl rfl ?_
            refine z_iload_n (pc' := 58) X dX5_pivot_57 rfl 2 rfl rfl ?_
            refine z_iconst (pc' := 59) X dX5_pivot_58 rfl ?_
            refine z_callVL (pc' := 62) (S := St) (As := [.int (jI s_), .int (jI 1)]) (rest := [.long (jL q_)]) X dX5_pivot_59 rfl (kX5_tempoPart l D E q σ s_ 1  (hwf) (hji) (by omega)) (cwV 2 X.1.2.2.2.2 gX5_pivot_X5_tempoPart rfl rfl rfl (by decide +kernel) ⟨Nat.le_of_ble_eq_true rfl, Nat.le_of_ble_eq_true rfl⟩) 0 rfl rfl rfl rfl (Nat.le_of_ble_eq_true rfl) (fun r59 u59 hp59 => ?_)
            obtain ⟨rfl, e59⟩ := hp59
            rw [if_neg (show ¬ (1 : Int) = 0 by decide)] at e59
            have m0 := mul_bd (a := q_) (b := r59) (A := 400) (B := 68719476736) (by omega) (by omega)
            refine z_lmul (pc' := 63) X dX5_pivot_62 rfl ?_
            refine z_lstore (pc' := 65) (lv' := [(6, .long (jL (q_ * r59))), (4, .long (jL r49)), (0, .ref (q 0)), (1, .int (jI s_)), (2, .int (jI q_)), (3, .int (jI k))]) X dX5_pivot_63 rfl (by decide) rfl ?_
            refine z_iconst (pc' := 66) X dX5_pivot_65 rfl ?_
            refine z_istore (pc' := 68) (lv' := [(8, .int (jI 0)), (6, .long (jL (q_ * r59))), (4, .long (jL r49)), (0, .ref (q 0)), (1, .int (jI s_)), (2, .int (jI q_)), (3, .int (jI k))]) X dX5_pivot_66 rfl (by decide) rfl ?_
            refine z_iconst (pc' := 69) X dX5_pivot_68 rfl ?_
            refine z_istore (pc' := 71) (lv' := [(9, .int (jI 0)), (8, .int (jI 0)), (6, .long (jL (q_ * r59))), (4, .long (jL r49)), (0, .ref (q 0)), (1, .int (jI s_)), (2, .int (jI q_)), (3, .int (jI k))]) X dX5_pivot_69 rfl (by decide) rfl ?_
            have lp71 : ∀ (nF : Nat) (v : Int) (n_ : Int) , ((0 ≤ v ∧ v ≤ 20) ∧ n_ = smI (pvM (σ 0 0) (σ 4 0) (σ 5) (σ 6) (σ 7) (σ 8) s_ q_) (20 * v).toNat ∧ (0 ≤ n_ ∧ n_ ≤ 20 * v) ∧ (n_ ≤ k ∨ k = -1)) → ((20 - v).toNat : Nat) < nF → J p l e (headSpec wsX5_pivot ({ frames := 3, cells := 0, slots := 0, locals := 73 } : Room)).room s m args below meth c D A 11 (MQ below (va_Qi (fun r u => ∃ x, r = jI x ∧ (fun (rv : Int) (uu : St) => σ = uu ∧ (fPivot (σ 1 0) (σ 0 0) (σ 4 0) (σ 5) (σ 6) (σ 7) (σ 8) s_ q_ k rv)) x u) (Bw D (CW E q) A) A) args s 0 0 A) 71 [(9, .int (jI v)), (8, .int (jI n_)), (6, .long (jL (q_ * r59))), (4, .long (jL r49)), (0, .ref (q 0)), (1, .int (jI s_)), (2, .int (jI q_)), (3, .int (jI k))] [] (CW E q σ) := by
              intro nF
              induction nF with
              | zero => intro v n_  hI hn; exact absurd hn (Nat.not_lt_zero _)
              | succ nF ih71 =>
                intro v n_  hI hn
                obtain ⟨g1, g2, g3, g4⟩ := hI
                refine z_iload (pc' := 73) X dX5_pivot_71 rfl 0 rfl ?_
                refine z_bipush (pc' := 75) X dX5_pivot_73 rfl rfl ?_
                refine z_icmp_ge (tgt := 142) (pc' := 78) X dX5_pivot_75 (by decide) rfl (by omega) (fun h75 => ?_) (fun h75 => ?_)
                · refine z_iload_n (pc' := 143) X dX5_pivot_142 rfl 7 rfl rfl ?_
                  refine z_iconst (pc' := 144) X dX5_pivot_143 rfl ?_
                  refine z_icmp_ne (tgt := 152) (pc' := 147) X dX5_pivot_144 (by decide) rfl (by omega) (fun h144 => ?_) (fun h144 => ?_)
                  · refine z_bipush (pc' := 154) X dX5_pivot_152 rfl rfl ?_
                    exact z_iret (post := (fun (rv : Int) (uu : St) => σ = uu ∧ (fPivot (σ 1 0) (σ 0 0) (σ 4 0) (σ 5) (σ 6) (σ 7) (σ 8) s_ q_ k rv))) X dX5_pivot_154 hret σ (by first | exact ⟨rfl, Or.inr (Or.inr (Or.inr ⟨hp2, by omega, jj, Or.inl ⟨by omega, by rw [g2, show v = 20 by omega]; rfl⟩⟩))⟩ | exact ⟨rfl, Or.inr (Or.inr (Or.inr ⟨hp2, by omega, jj, Or.inr ⟨by omega, Or.inr ⟨pv_end g2 (by omega) (by omega), rfl⟩⟩⟩))⟩)
                  · refine z_iload (pc' := 149) X dX5_pivot_147 rfl 1 rfl ?_
                    refine z_goto (tgt := 154) X dX5_pivot_149 (by decide) ?_
                    exact z_iret (post := (fun (rv : Int) (uu : St) => σ = uu ∧ (fPivot (σ 1 0) (σ 0 0) (σ 4 0) (σ 5) (σ 6) (σ 7) (σ 8) s_ q_ k rv))) X dX5_pivot_154 hret σ (by first | exact ⟨rfl, Or.inr (Or.inr (Or.inr ⟨hp2, by omega, jj, Or.inl ⟨by omega, by rw [g2, show v = 20 by omega]; rfl⟩⟩))⟩ | exact ⟨rfl, Or.inr (Or.inr (Or.inr ⟨hp2, by omega, jj, Or.inr ⟨by omega, Or.inr ⟨pv_end g2 (by omega) (by omega), rfl⟩⟩⟩))⟩)
                · refine z_iconst (pc' := 79) X dX5_pivot_78 rfl ?_
                  refine z_istore (pc' := 81) (lv' := [(10, .int (jI 0)), (9, .int (jI v)), (8, .int (jI n_)), (6, .long (jL (q_ * r59))), (4, .long (jL r49)), (0, .ref (q 0)), (1, .int (jI s_)), (2, .int (jI q_)), (3, .int (jI k))]) X dX5_pivot_79 rfl (by decide) rfl ?_
                  have lp81 : ∀ (nF : Nat) (w : Int) (m_ : Int) , ((0 ≤ w ∧ w ≤ 20) ∧ m_ = smI (pvM (σ 0 0) (σ 4 0) (σ 5) (σ 6) (σ 7) (σ 8) s_ q_) (20 * v + w).toNat ∧ (0 ≤ m_ ∧ m_ ≤ 20 * v + w) ∧ (m_ ≤ k ∨ k = -1)) → ((20 - w).toNat : Nat) < nF → J p l e (headSpec wsX5_pivot ({ frames := 3, cells := 0, slots := 0, locals := 73 } : Room)).room s m args below meth c D A 11 (MQ below (va_Qi (fun r u => ∃ x, r = jI x ∧ (fun (rv : Int) (uu : St) => σ = uu ∧ (fPivot (σ 1 0) (σ 0 0) (σ 4 0) (σ 5) (σ 6) (σ 7) (σ 8) s_ q_ k rv)) x u) (Bw D (CW E q) A) A) args s 0 0 A) 81 [(10, .int (jI w)), (9, .int (jI v)), (8, .int (jI m_)), (6, .long (jL (q_ * r59))), (4, .long (jL r49)), (0, .ref (q 0)), (1, .int (jI s_)), (2, .int (jI q_)), (3, .int (jI k))] [] (CW E q σ) := by
                    intro nF
                    induction nF with
                    | zero => intro w m_  hI hn; exact absurd hn (Nat.not_lt_zero _)
                    | succ nF ih81 =>
                      intro w m_  hI hn
                      obtain ⟨h1, h2, h3, h4⟩ := hI
                      refine z_iload (pc' := 83) X dX5_pivot_81 rfl 0 rfl ?_
                      refine z_bipush (pc' := 85) X dX5_pivot_83 rfl rfl ?_
                      refine z_icmp_ge (tgt := 136) (pc' := 88) X dX5_pivot_85 (by decide) rfl (by omega) (fun h85 => ?_) (fun h85 => ?_)
                      · refine z_iinc (pc' := 139) (lv' := [(9, .int (jI (v + 1))), (10, .int (jI w)), (8, .int (jI m_)), (6, .long (jL (q_ * r59))), (4, .long (jL r49)), (0, .ref (q 0)), (1, .int (jI s_)), (2, .int (jI q_)), (3, .int (jI k))]) X dX5_pivot_136 rfl 1 rfl (by decide) rfl ?_
                        refine z_goto (tgt := 71) X dX5_pivot_139 (by decide) ?_
                        refine z_lv (lv' := [(9, .int (jI (v + 1))), (8, .int (jI m_)), (6, .long (jL (q_ * r59))), (4, .long (jL r49)), (0, .ref (q 0)), (1, .int (jI s_)), (2, .int (jI q_)), (3, .int (jI k))]) [0, 2, 3, 4, 5, 6, 7, 8] rfl ?_
                        exact ih71 (v + 1) m_  (⟨by omega, by rw [h2, show 20 * v + w = 20 * (v + 1) by omega], by omega, h4⟩) (by omega)
                      · have ta := tk_rng (v := v) (by omega)
                        have tb := tk_rng (v := w) (by omega)
                        have m1 := mul_bd (a := r49) (b := tk w) (A := 27487790694400) (B := 144) (by omega) (by omega)
                        have m2 := mul_bd (a := q_ * r59) (b := tk v) (A := 27487790694400) (B := 144) (by omega) (by omega)
                        have pe := pv_c (st := σ 0 0) (nT := σ 4 0) (a := σ 5) (v := σ 6) (b := σ 7) (w := σ 8) (s := s_) (q := q_) (x := 20 * v + w) n0
                        rw [show (20 * v + w) % 20 = w by omega, show (20 * v + w) / 20 = v by omega, ← e49, ← e59] at pe
                        refine z_lload (pc' := 90) X dX5_pivot_88 rfl 4 rfl ?_
                        refine z_gets (pc' := 93) (ref := "PivotBeats") X dX5_pivot_90 rfl X.2.2.2.1.1.1 (by decide +kernel) rfl ?_
                        refine z_iload (pc' := 95) X dX5_pivot_93 rfl 0 rfl ?_
                        refine z_ti (pc' := 96) (f := tk) X dX5_pivot_95 rfl X.2.2.2.1.2.1.1 (by decide) (by omega) ?_
                        refine z_i2l (pc' := 97) X dX5_pivot_96 rfl (by omega) ?_
                        refine z_lmul (pc' := 98) X dX5_pivot_97 rfl ?_
                        refine z_lload (pc' := 100) X dX5_pivot_98 rfl 3 rfl ?_
                        refine z_gets (pc' := 103) (ref := "PivotBeats") X dX5_pivot_100 rfl X.2.2.2.1.1.1 (by decide +kernel) rfl ?_
                        refine z_iload (pc' := 105) X dX5_pivot_103 rfl 1 rfl ?_
                        refine z_ti (pc' := 106) (f := tk) X dX5_pivot_105 rfl X.2.2.2.1.2.1.1 (by decide) (by omega) ?_
                        refine z_i2l (pc' := 107) X dX5_pivot_106 rfl (by omega) ?_
                        refine z_lmul (pc' := 108) X dX5_pivot_107 rfl ?_
                        refine z_lcmp_ne (tgt := 130) (pc' := 112) X dX5_pivot_108 (pc1 := 109) rfl dX5_pivot_109 (by decide) rfl (by omega) (fun h108 => ?_) (fun h108 => ?_)
                        · refine z_iinc (pc' := 133) (lv' := [(10, .int (jI (w + 1))), (9, .int (jI v)), (8, .int (jI m_)), (6, .long (jL (q_ * r59))), (4, .long (jL r49)), (0, .ref (q 0)), (1, .int (jI s_)), (2, .int (jI q_)), (3, .int (jI k))]) X dX5_pivot_130 rfl 0 rfl (by decide) rfl ?_
                          refine z_goto (tgt := 81) X dX5_pivot_133 (by decide) ?_
                          exact ih81 (w + 1) m_  (by first | exact ⟨by omega, by rw [show 20 * v + (w + 1) = 20 * v + w + 1 by omega, smI_succ _ (show 0 ≤ 20 * v + w by omega), ← h2, pe.1 h108], by omega, by omega⟩ | exact ⟨by omega, by rw [show 20 * v + (w + 1) = 20 * v + w + 1 by omega, smI_succ _ (show 0 ≤ 20 * v + w by omega), ← h2, pe.2 h108, Int.add_zero], by omega, by omega⟩) (by omega)
                        · refine z_iload (pc' := 114) X dX5_pivot_112 rfl 2 rfl ?_
                          refine z_iload_n (pc' := 115) X dX5_pivot_114 rfl 8 rfl rfl ?_
                          refine z_icmp_ne (tgt := 127) (pc' := 118) X dX5_pivot_115 (by decide) rfl (by omega) (fun h115 => ?_) (fun h115 => ?_)
                          · refine z_iinc (pc' := 130) (lv' := [(8, .int (jI (m_ + 1))), (10, .int (jI w)), (9, .int (jI v)), (6, .long (jL (q_ * r59))), (4, .long (jL r49)), (0, .ref (q 0)), (1, .int (jI s_)), (2, .int (jI q_)), (3, .int (jI k))]) X dX5_pivot_127 rfl 2 rfl (by decide) rfl ?_
                            refine z_iinc (pc' := 133) (lv' := [(10, .int (jI (w + 1))), (8, .int (jI (m_ + 1))), (9, .int (jI v)), (6, .long (jL (q_ * r59))), (4, .long (jL r49)), (0, .ref (q 0)), (1, .int (jI s_)), (2, .int (jI q_)), (3, .int (jI k))]) X dX5_pivot_130 rfl 1 rfl (by decide) rfl ?_
                            refine z_goto (tgt := 81) X dX5_pivot_133 (by decide) ?_
                            refine z_lv (lv' := [(10, .int (jI (w + 1))), (9, .int (jI v)), (8, .int (jI (m_ + 1))), (6, .long (jL (q_ * r59))), (4, .long (jL r49)), (0, .ref (q 0)), (1, .int (jI s_)), (2, .int (jI q_)), (3, .int (jI k))]) [0, 2, 1, 3, 4, 5, 6, 7, 8] rfl ?_
                            exact ih81 (w + 1) (m_ + 1)  (by first | exact ⟨by omega, by rw [show 20 * v + (w + 1) = 20 * v + w + 1 by omega, smI_succ _ (show 0 ≤ 20 * v + w by omega), ← h2, pe.1 h108], by omega, by omega⟩ | exact ⟨by omega, by rw [show 20 * v + (w + 1) = 20 * v + w + 1 by omega, smI_succ _ (show 0 ≤ 20 * v + w by omega), ← h2, pe.2 h108, Int.add_zero], by omega, by omega⟩) (by omega)
                          · refine z_bipush (pc' := 120) X dX5_pivot_118 rfl rfl ?_
                            refine z_iload (pc' := 122) X dX5_pivot_120 rfl 1 rfl ?_
                            refine z_imul (pc' := 123) X dX5_pivot_122 rfl ?_
                            refine z_iload (pc' := 125) X dX5_pivot_123 rfl 0 rfl ?_
                            refine z_iadd (pc' := 126) X dX5_pivot_125 rfl ?_
                            exact z_iret (post := (fun (rv : Int) (uu : St) => σ = uu ∧ (fPivot (σ 1 0) (σ 0 0) (σ 4 0) (σ 5) (σ 6) (σ 7) (σ 8) s_ q_ k rv))) X dX5_pivot_126 hret σ (⟨rfl, Or.inr (Or.inr (Or.inr ⟨hp2, by omega, jj, Or.inr ⟨by omega, Or.inl ⟨20 * v + w, by omega, pe.1 h108, by omega, by rw [show (20 * v + w) % 20 = w by omega, show (20 * v + w) / 20 = v by omega]⟩⟩⟩))⟩)
                  exact lp81 _ 0 n_  (⟨by omega, by rw [g2, show 20 * v + 0 = 20 * v by omega], by omega, g4⟩) (Nat.lt_succ_self _)
            exact lp71 _ 0 0  (⟨by omega, rfl, by omega, by omega⟩) (Nat.lt_succ_self _)
          · refine z_if_ne (tgt := 46) (pc' := 43) X dX5_pivot_40 (by decide) rfl (by omega) (fun h => absurd h (by decide)) (fun _ => ?_)
            refine z_bipush (pc' := 45) X dX5_pivot_43 rfl rfl ?_
            exact z_iret (post := (fun (rv : Int) (uu : St) => σ = uu ∧ (fPivot (σ 1 0) (σ 0 0) (σ 4 0) (σ 5) (σ 6) (σ 7) (σ 8) s_ q_ k rv))) X dX5_pivot_45 hret σ (⟨rfl, Or.inr (Or.inr (Or.inl ⟨hp2, by omega, fun z => hp37 (pl.mpr z), rfl⟩))⟩)
        · refine z_bipush (pc' := 31) X dX5_pivot_29 rfl rfl ?_
          exact z_iret (post := (fun (rv : Int) (uu : St) => σ = uu ∧ (fPivot (σ 1 0) (σ 0 0) (σ 4 0) (σ 5) (σ 6) (σ 7) (σ 8) s_ q_ k rv))) X dX5_pivot_31 hret σ (⟨rfl, Or.inr (Or.inl ⟨hp2, by omega, rfl⟩)⟩)
    · refine z_if_eq (tgt := 29) (pc' := 17) X dX5_pivot_14 (by decide) rfl (by omega) (fun _ => ?_) (fun h => absurd h (by decide))
      refine z_bipush (pc' := 31) X dX5_pivot_29 rfl rfl ?_
      exact z_iret (post := (fun (rv : Int) (uu : St) => σ = uu ∧ (fPivot (σ 1 0) (σ 0 0) (σ 4 0) (σ 5) (σ 6) (σ 7) (σ 8) s_ q_ k rv))) X dX5_pivot_31 hret σ (⟨rfl, Or.inr (Or.inl ⟨hp2, by omega, rfl⟩)⟩)
  · refine z_if_ne (tgt := 10) (pc' := 8) X dX5_pivot_5 (by decide) rfl (by omega) (fun h => absurd h (by decide)) (fun _ => ?_)
    refine z_iconst (pc' := 9) X dX5_pivot_8 rfl ?_
    exact z_iret (post := (fun (rv : Int) (uu : St) => σ = uu ∧ (fPivot (σ 1 0) (σ 0 0) (σ 4 0) (σ 5) (σ 6) (σ 7) (σ 8) s_ q_ k rv))) X dX5_pivot_9 hret σ (⟨rfl, Or.inl ⟨hp2, rfl⟩⟩)
set_option maxHeartbeats 4000000 in
set_option maxRecDepth 100000 in
theorem kX5_many (l : Launch) (D : va_G) (E : Nat → Nat) (q : Nat → Nat) (σ : St) (what : Int) (hwf : WfC σ) (hji : JI σ) (hr : (-2147483648 ≤ what ∧ what < 2147483648)) : CtI l D E yX5_many wsX5_many ({ frames := 4, cells := 0, slots := 0, locals := 86 } : Room) [.ref (q 0), .int (jI what)] (CW E q σ) (CW E q) (fun (rv : Int) (uu : St) => σ = uu ∧ rv = fMany (σ 1 0) (σ 3) (σ 0 0) (σ 4 0) (σ 5) (σ 6) (σ 7) (σ 8) (σ 16 0) (σ 15) what) := by
  refine mk_I (cc := cX5_many) (maxL := 2) (ret := some .int) (by decide) rfl (Nat.le_of_ble_eq_true rfl) ?_
  intro p e s m args below meth c A X hret
  have hin5 : ∀ x ∈ u_ws RX5 TX5 6, x ∈ wsX5_many := fun _ h => List.mem_cons_of_mem _ (List.mem_append_left _ (List.mem_append_left _ (List.mem_append_left _ (List.mem_append_right _ h))))
  have hin3 : ∀ x ∈ u_ws RX3 TX3 9, x ∈ wsX5_many := fun _ h => List.mem_cons_of_mem _ (List.mem_append_left _ (List.mem_append_left _ (List.mem_append_right _ h)))
  have hin2 : ∀ x ∈ u_ws RX2 TX2 2, x ∈ wsX5_many := fun _ h => List.mem_cons_of_mem _ (List.mem_append_left _ (List.mem_append_right _ h))
  have hin1 : ∀ x ∈ u_ws RX1 TX1 5, x ∈ wsX5_many := fun _ h => List.mem_cons_of_mem _ (List.mem_append_right _ h)
  refine z_lv (lv' := [(0, .ref (q 0)), (1, .int (jI what))]) [0, 1] rfl ?_
  obtain ⟨n1, n0, n4, n16⟩ := hwf.n
  refine z_iload_n (pc' := 1) X dX5_many_0 rfl 1 rfl rfl ?_
  rcases (show what = 0 ∨ what = 1 ∨ what = 2 ∨ what = 3 ∨ what = 4 ∨ what = 5 ∨ what = 6 ∨ what = 7 ∨ what = 8 ∨ (what < 0 ∨ 8 < what) by omega) with h1 | h1 | h1 | h1 | h1 | h1 | h1 | h1 | h1 | h1
  · refine z_tableIn (tgt := 52) (off := 51) X dX5_many_1 (by decide) (by omega) (by omega) (by rw [h1]; rfl) ?_
    refine z_aload_n (pc' := 53) X dX5_many_52 rfl 0 rfl rfl ?_
    refine z_get (pc' := 56) (C := RX5) (ref := "PivotBeats") (T := TX5) (N := 6) (v := .ref (q 36)) X dX5_many_53 rfl hin5 0 rfl rfl 0 (by decide) (by decide +kernel) rfl rfl ?_
    refine z_get (pc' := 59) (C := RX3) (ref := "PivotBeats$Piece") (T := TX3) (N := 9) (v := .int (jI (σ 1 0))) X dX5_many_56 rfl hin3 1 rfl rfl 0 (by decide) (by decide +kernel) rfl rfl ?_
    exact z_iret (post := (fun (rv : Int) (uu : St) => σ = uu ∧ rv = fMany (σ 1 0) (σ 3) (σ 0 0) (σ 4 0) (σ 5) (σ 6) (σ 7) (σ 8) (σ 16 0) (σ 15) what)) X dX5_many_59 hret σ (⟨rfl, by unfold fMany; rw [if_pos h1]⟩)
  · refine z_tableIn (tgt := 60) (off := 59) X dX5_many_1 (by decide) (by omega) (by omega) (by rw [h1]; rfl) ?_
    refine z_aload_n (pc' := 61) X dX5_many_60 rfl 0 rfl rfl ?_
    refine z_get (pc' := 64) (C := RX5) (ref := "PivotBeats") (T := TX5) (N := 6) (v := .ref (q 36)) X dX5_many_61 rfl hin5 0 rfl rfl 0 (by decide) (by decide +kernel) rfl rfl ?_
    refine z_get (pc' := 67) (C := RX3) (ref := "PivotBeats$Piece") (T := TX3) (N := 9) (v := .int (jI (σ 4 0))) X dX5_many_64 rfl hin3 1 rfl rfl 3 (by decide) (by decide +kernel) rfl rfl ?_
    exact z_iret (post := (fun (rv : Int) (uu : St) => σ = uu ∧ rv = fMany (σ 1 0) (σ 3) (σ 0 0) (σ 4 0) (σ 5) (σ 6) (σ 7) (σ 8) (σ 16 0) (σ 15) what)) X dX5_many_67 hret σ (⟨rfl, by unfold fMany; rw [if_neg (show ¬ what = 0 by omega), if_pos h1]⟩)
  · refine z_tableIn (tgt := 68) (off := 67) X dX5_many_1 (by decide) (by omega) (by omega) (by rw [h1]; rfl) ?_
    refine z_aload_n (pc' := 69) X dX5_many_68 rfl 0 rfl rfl ?_
    refine z_get (pc' := 72) (C := RX5) (ref := "PivotBeats") (T := TX5) (N := 6) (v := .ref (q 37)) X dX5_many_69 rfl hin5 0 rfl rfl 1 (by decide) (by decide +kernel) rfl rfl ?_
    refine z_iconst (pc' := 73) X dX5_many_72 rfl ?_
    refine z_aload_n (pc' := 74) X dX5_many_73 rfl 0 rfl rfl ?_
    refine z_get (pc' := 77) (C := RX5) (ref := "PivotBeats") (T := TX5) (N := 6) (v := .ref (q 36)) X dX5_many_74 rfl hin5 0 rfl rfl 0 (by decide) (by decide +kernel) rfl rfl ?_
    refine z_get (pc' := 80) (C := RX3) (ref := "PivotBeats$Piece") (T := TX3) (N := 9) (v := .int (jI (σ 4 0))) X dX5_many_77 rfl hin3 1 rfl rfl 3 (by decide) (by decide +kernel) rfl rfl ?_
    refine z_callVI (pc' := 83) (S := St) (As := [.int (jI 0), .int (jI (σ 4 0))]) (rest := []) X dX5_many_80 rfl (kX1_countOf l D E q σ 0 (σ 4 0)  (by omega) (fun k k0 k1 => (hji.k ⟨k0, k1⟩).2)) (cwV 2 X.1.2.2.2.2 gX5_many_X1_countOf rfl rfl rfl (by decide +kernel) ⟨Nat.le_of_ble_eq_true rfl, Nat.le_of_ble_eq_true rfl⟩) 2 rfl rfl rfl rfl (Nat.le_of_ble_eq_true rfl) (fun r80 u80 hp80 => ?_)
    obtain ⟨rfl, hp80⟩ := hp80
    obtain ⟨er80, eb80⟩ := hp80
    exact z_iret (post := (fun (rv : Int) (uu : St) => σ = uu ∧ rv = fMany (σ 1 0) (σ 3) (σ 0 0) (σ 4 0) (σ 5) (σ 6) (σ 7) (σ 8) (σ 16 0) (σ 15) what)) X dX5_many_83 hret σ (⟨rfl, by unfold fMany; rw [if_neg (show ¬ what = 0 by omega), if_neg (show ¬ what = 1 by omega), if_pos (show 2 ≤ what ∧ what ≤ 4 by omega), er80, h1]; exact smI_congr _ (fun k k0 k1 => by rw [(hji.k ⟨k0, by omega⟩).1]; rfl)⟩)
  · refine z_tableIn (tgt := 84) (off := 83) X dX5_many_1 (by decide) (by omega) (by omega) (by rw [h1]; rfl) ?_
    refine z_aload_n (pc' := 85) X dX5_many_84 rfl 0 rfl rfl ?_
    refine z_get (pc' := 88) (C := RX5) (ref := "PivotBeats") (T := TX5) (N := 6) (v := .ref (q 37)) X dX5_many_85 rfl hin5 0 rfl rfl 1 (by decide) (by decide +kernel) rfl rfl ?_
    refine z_iconst (pc' := 89) X dX5_many_88 rfl ?_
    refine z_aload_n (pc' := 90) X dX5_many_89 rfl 0 rfl rfl ?_
    refine z_get (pc' := 93) (C := RX5) (ref := "PivotBeats") (T := TX5) (N := 6) (v := .ref (q 36)) X dX5_many_90 rfl hin5 0 rfl rfl 0 (by decide) (by decide +kernel) rfl rfl ?_
    refine z_get (pc' := 96) (C := RX3) (ref := "PivotBeats$Piece") (T := TX3) (N := 9) (v := .int (jI (σ 4 0))) X dX5_many_93 rfl hin3 1 rfl rfl 3 (by decide) (by decide +kernel) rfl rfl ?_
    refine z_callVI (pc' := 99) (S := St) (As := [.int (jI 1), .int (jI (σ 4 0))]) (rest := []) X dX5_many_96 rfl (kX1_countOf l D E q σ 1 (σ 4 0)  (by omega) (fun k k0 k1 => (hji.k ⟨k0, k1⟩).2)) (cwV 2 X.1.2.2.2.2 gX5_many_X1_countOf rfl rfl rfl (by decide +kernel) ⟨Nat.le_of_ble_eq_true rfl, Nat.le_of_ble_eq_true rfl⟩) 2 rfl rfl rfl rfl (Nat.le_of_ble_eq_true rfl) (fun r96 u96 hp96 => ?_)
    obtain ⟨rfl, hp96⟩ := hp96
    obtain ⟨er96, eb96⟩ := hp96
    exact z_iret (post := (fun (rv : Int) (uu : St) => σ = uu ∧ rv = fMany (σ 1 0) (σ 3) (σ 0 0) (σ 4 0) (σ 5) (σ 6) (σ 7) (σ 8) (σ 16 0) (σ 15) what)) X dX5_many_99 hret σ (⟨rfl, by unfold fMany; rw [if_neg (show ¬ what = 0 by omega), if_neg (show ¬ what = 1 by omega), if_pos (show 2 ≤ what ∧ what ≤ 4 by omega), er96, h1]; exact smI_congr _ (fun k k0 k1 => by rw [(hji.k ⟨k0, by omega⟩).1]; rfl)⟩)
  · refine z_tableIn (tgt := 100) (off := 99) X dX5_many_1 (by decide) (by omega) (by omega) (by rw [h1]; rfl) ?_
    refine z_aload_n (pc' := 101) X dX5_many_100 rfl 0 rfl rfl ?_
    refine z_get (pc' := 104) (C := RX5) (ref := "PivotBeats") (T := TX5) (N := 6) (v := .ref (q 37)) X dX5_many_101 rfl hin5 0 rfl rfl 1 (by decide) (by decide +kernel) rfl rfl ?_
    refine z_iconst (pc' := 105) X dX5_many_104 rfl ?_
    refine z_aload_n (pc' := 106) X dX5_many_105 rfl 0 rfl rfl ?_
    refine z_get (pc' := 109) (C := RX5) (ref := "PivotBeats") (T := TX5) (N := 6) (v := .ref (q 36)) X dX5_many_106 rfl hin5 0 rfl rfl 0 (by decide) (by decide +kernel) rfl rfl ?_
    refine z_get (pc' := 112) (C := RX3) (ref := "PivotBeats$Piece") (T := TX3) (N := 9) (v := .int (jI (σ 4 0))) X dX5_many_109 rfl hin3 1 rfl rfl 3 (by decide) (by decide +kernel) rfl rfl ?_
    refine z_callVI (pc' := 115) (S := St) (As := [.int (jI 2), .int (jI (σ 4 0))]) (rest := []) X dX5_many_112 rfl (kX1_countOf l D E q σ 2 (σ 4 0)  (by omega) (fun k k0 k1 => (hji.k ⟨k0, k1⟩).2)) (cwV 2 X.1.2.2.2.2 gX5_many_X1_countOf rfl rfl rfl (by decide +kernel) ⟨Nat.le_of_ble_eq_true rfl, Nat.le_of_ble_eq_true rfl⟩) 2 rfl rfl rfl rfl (Nat.le_of_ble_eq_true rfl) (fun r112 u112 hp112 => ?_)
    obtain ⟨rfl, hp112⟩ := hp112
    obtain ⟨er112, eb112⟩ := hp112
    exact z_iret (post := (fun (rv : Int) (uu : St) => σ = uu ∧ rv = fMany (σ 1 0) (σ 3) (σ 0 0) (σ 4 0) (σ 5) (σ 6) (σ 7) (σ 8) (σ 16 0) (σ 15) what)) X dX5_many_115 hret σ (⟨rfl, by unfold fMany; rw [if_neg (show ¬ what = 0 by omega), if_neg (show ¬ what = 1 by omega), if_pos (show 2 ≤ what ∧ what ≤ 4 by omega), er112, h1]; exact smI_congr _ (fun k k0 k1 => by rw [(hji.k ⟨k0, by omega⟩).1]; rfl)⟩)
  · refine z_tableIn (tgt := 116) (off := 115) X dX5_many_1 (by decide) (by omega) (by omega) (by rw [h1]; rfl) ?_
    refine z_aload_n (pc' := 117) X dX5_many_116 rfl 0 rfl rfl ?_
    refine z_get (pc' := 120) (C := RX5) (ref := "PivotBeats") (T := TX5) (N := 6) (v := .ref (q 36)) X dX5_many_117 rfl hin5 0 rfl rfl 0 (by decide) (by decide +kernel) rfl rfl ?_
    refine z_get (pc' := 123) (C := RX3) (ref := "PivotBeats$Piece") (T := TX3) (N := 9) (v := .int (jI (σ 1 0))) X dX5_many_120 rfl hin3 1 rfl rfl 0 (by decide) (by decide +kernel) rfl rfl ?_
    refine z_aload_n (pc' := 124) X dX5_many_123 rfl 0 rfl rfl ?_
    refine z_get (pc' := 127) (C := RX5) (ref := "PivotBeats") (T := TX5) (N := 6) (v := .ref (q 37)) X dX5_many_124 rfl hin5 0 rfl rfl 1 (by decide) (by decide +kernel) rfl rfl ?_
    refine z_iconst (pc' := 128) X dX5_many_127 rfl ?_
    refine z_aload_n (pc' := 129) X dX5_many_128 rfl 0 rfl rfl ?_
    refine z_get (pc' := 132) (C := RX5) (ref := "PivotBeats") (T := TX5) (N := 6) (v := .ref (q 36)) X dX5_many_129 rfl hin5 0 rfl rfl 0 (by decide) (by decide +kernel) rfl rfl ?_
    refine z_get (pc' := 135) (C := RX3) (ref := "PivotBeats$Piece") (T := TX3) (N := 9) (v := .int (jI (σ 4 0))) X dX5_many_132 rfl hin3 1 rfl rfl 3 (by decide) (by decide +kernel) rfl rfl ?_
    refine z_callVI (pc' := 138) (S := St) (As := [.int (jI 0), .int (jI (σ 4 0))]) (rest := [.int (jI (σ 1 0))]) X dX5_many_135 rfl (kX1_countOf l D E q σ 0 (σ 4 0)  (by omega) (fun k k0 k1 => (hji.k ⟨k0, k1⟩).2)) (cwV 2 X.1.2.2.2.2 gX5_many_X1_countOf rfl rfl rfl (by decide +kernel) ⟨Nat.le_of_ble_eq_true rfl, Nat.le_of_ble_eq_true rfl⟩) 2 rfl rfl rfl rfl (Nat.le_of_ble_eq_true rfl) (fun r135 u135 hp135 => ?_)
    obtain ⟨rfl, hp135⟩ := hp135
    obtain ⟨er135, eb135⟩ := hp135
    refine z_isub (pc' := 139) X dX5_many_138 rfl ?_
    exact z_iret (post := (fun (rv : Int) (uu : St) => σ = uu ∧ rv = fMany (σ 1 0) (σ 3) (σ 0 0) (σ 4 0) (σ 5) (σ 6) (σ 7) (σ 8) (σ 16 0) (σ 15) what)) X dX5_many_139 hret σ (⟨rfl, by unfold fMany; rw [if_neg (show ¬ what = 0 by omega), if_neg (show ¬ what = 1 by omega), if_neg (show ¬ (2 ≤ what ∧ what ≤ 4) by omega), if_pos h1, er135]; congr 1; exact smI_congr _ (fun k k0 k1 => by rw [(hji.k ⟨k0, by omega⟩).1])⟩)
  · refine z_tableIn (tgt := 140) (off := 139) X dX5_many_1 (by decide) (by omega) (by omega) (by rw [h1]; rfl) ?_
    refine z_aload_n (pc' := 141) X dX5_many_140 rfl 0 rfl rfl ?_
    refine z_get (pc' := 144) (C := RX5) (ref := "PivotBeats") (T := TX5) (N := 6) (v := .ref (q 38)) X dX5_many_141 rfl hin5 0 rfl rfl 2 (by decide) (by decide +kernel) rfl rfl ?_
    refine z_get (pc' := 147) (C := RX2) (ref := "PivotBeats$Metronome") (T := TX2) (N := 2) (v := .int (jI (σ 16 0))) X dX5_many_144 rfl hin2 3 rfl rfl 1 (by decide) (by decide +kernel) rfl rfl ?_
    exact z_iret (post := (fun (rv : Int) (uu : St) => σ = uu ∧ rv = fMany (σ 1 0) (σ 3) (σ 0 0) (σ 4 0) (σ 5) (σ 6) (σ 7) (σ 8) (σ 16 0) (σ 15) what)) X dX5_many_147 hret σ (⟨rfl, by unfold fMany; rw [if_neg (show ¬ what = 0 by omega), if_neg (show ¬ what = 1 by omega), if_neg (show ¬ (2 ≤ what ∧ what ≤ 4) by omega), if_neg (show ¬ what = 5 by omega), if_pos h1]⟩)
  · refine z_tableIn (tgt := 148) (off := 147) X dX5_many_1 (by decide) (by omega) (by omega) (by rw [h1]; rfl) ?_
    refine z_aload_n (pc' := 149) X dX5_many_148 rfl 0 rfl rfl ?_
    refine z_callVI (pc' := 152) (S := St) (As := []) (rest := []) X dX5_many_149 rfl (kX5_pinsThatHold l D E q σ   (hwf)) (cwV 0 X.1.2.2.2.2 gX5_many_X5_pinsThatHold rfl rfl rfl (by decide +kernel) ⟨Nat.le_of_ble_eq_true rfl, Nat.le_of_ble_eq_true rfl⟩) 0 rfl rfl rfl rfl (Nat.le_of_ble_eq_true rfl) (fun r149 u149 hp149 => ?_)
    obtain ⟨rfl, hp149⟩ := hp149
    obtain ⟨er149, eb149⟩ := hp149
    exact z_iret (post := (fun (rv : Int) (uu : St) => σ = uu ∧ rv = fMany (σ 1 0) (σ 3) (σ 0 0) (σ 4 0) (σ 5) (σ 6) (σ 7) (σ 8) (σ 16 0) (σ 15) what)) X dX5_many_152 hret σ (⟨rfl, by unfold fMany; rw [if_neg (show ¬ what = 0 by omega), if_neg (show ¬ what = 1 by omega), if_neg (show ¬ (2 ≤ what ∧ what ≤ 4) by omega), if_neg (show ¬ what = 5 by omega), if_neg (show ¬ what = 6 by omega), if_pos h1, er149]⟩)
  · refine z_tableIn (tgt := 153) (off := 152) X dX5_many_1 (by decide) (by omega) (by omega) (by rw [h1]; rfl) ?_
    refine z_aload_n (pc' := 154) X dX5_many_153 rfl 0 rfl rfl ?_
    refine z_get (pc' := 157) (C := RX5) (ref := "PivotBeats") (T := TX5) (N := 6) (v := .int (jI (σ 0 0))) X dX5_many_154 rfl hin5 0 rfl rfl 5 (by decide) (by decide +kernel) rfl rfl ?_
    exact z_iret (post := (fun (rv : Int) (uu : St) => σ = uu ∧ rv = fMany (σ 1 0) (σ 3) (σ 0 0) (σ 4 0) (σ 5) (σ 6) (σ 7) (σ 8) (σ 16 0) (σ 15) what)) X dX5_many_157 hret σ (⟨rfl, by unfold fMany; rw [if_neg (show ¬ what = 0 by omega), if_neg (show ¬ what = 1 by omega), if_neg (show ¬ (2 ≤ what ∧ what ≤ 4) by omega), if_neg (show ¬ what = 5 by omega), if_neg (show ¬ what = 6 by omega), if_neg (show ¬ what = 7 by omega), if_pos h1]⟩)
  · refine z_tableOut (tgt := 158) X dX5_many_1 (by decide) (by omega) h1 ?_
    refine z_bipush (pc' := 160) X dX5_many_158 rfl rfl ?_
    exact z_iret (post := (fun (rv : Int) (uu : St) => σ = uu ∧ rv = fMany (σ 1 0) (σ 3) (σ 0 0) (σ 4 0) (σ 5) (σ 6) (σ 7) (σ 8) (σ 16 0) (σ 15) what)) X dX5_many_160 hret σ (⟨rfl, by unfold fMany; rw [if_neg (show ¬ what = 0 by omega), if_neg (show ¬ what = 1 by omega), if_neg (show ¬ (2 ≤ what ∧ what ≤ 4) by omega), if_neg (show ¬ what = 5 by omega), if_neg (show ¬ what = 6 by omega), if_neg (show ¬ what = 7 by omega), if_neg (show ¬ what = 8 by omega)]⟩)
