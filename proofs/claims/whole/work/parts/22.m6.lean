theorem tm_step {u1 σ : St} {k n : Int} (h1 : 0 ≤ k ∧ k ≤ n) (h3 : ∀ i, u1 14 i = if k < i ∧ i ≤ n then σ 14 (i - 1) else σ 14 i) (hk : 0 < k) (i : Int) : up u1 14 k (u1 14 (k - 1)) 14 i = if k + -1 < i ∧ i ≤ n then σ 14 (i - 1) else σ 14 i := by
  rw [up_i, h3 (k - 1), if_neg (show ¬ (k < k - 1 ∧ k - 1 ≤ n) by omega), h3 i]
  by_cases q : i = k
  · rw [if_pos q, if_pos (by omega), q]
  · rw [if_neg q]
    by_cases q2 : k < i ∧ i ≤ n
    · rw [if_pos q2, if_pos (by omega)]
    · rw [if_neg q2, if_neg (by omega)]
theorem tm_g {f : Int → Int} {k n m : Int} (h4 : ∀ i, k ≤ i → i < n → m < f i) (h : m < f (k - 1)) (i : Int) (i0 : k + -1 ≤ i) (i1 : i < n) : m < f i := by
  by_cases q : i = k - 1
  · rw [q]; exact h
  · exact h4 i (by omega) i1
theorem tm_end {u1 σ : St} {k n m x : Int} (h1 : 0 ≤ k ∧ k ≤ n) (h3 : ∀ i, u1 14 i = if k < i ∧ i ≤ n then σ 14 (i - 1) else σ 14 i) (h4 : ∀ i, k ≤ i → i < n → m < σ 14 i) (hk : k = 0 ∨ σ 14 (k - 1) ≤ m) : up (up u1 14 k m) 13 0 x 14 = insM (σ 14) m n := by
  have e := insP_down h1.1 h1.2 h4 hk
  funext i
  show up u1 14 k m 14 i = _
  rw [up_i, h3 i]
  unfold insM
  rw [e]
theorem lo_step {u1 σ : St} {k place : Int} (h1 : place ≤ k) (h4 : ∀ i, u1 14 i = if place ≤ i ∧ i < k then σ 14 (i + 1) else σ 14 i) (i : Int) : up u1 14 k (u1 14 (k + 1)) 14 i = if place ≤ i ∧ i < k + 1 then σ 14 (i + 1) else σ 14 i := by
  rw [up_i, h4 (k + 1), if_neg (show ¬ (place ≤ k + 1 ∧ k + 1 < k) by omega), h4 i]
  by_cases q : i = k
  · rw [if_pos q, if_pos (by omega), q]
  · rw [if_neg q]
    by_cases q2 : place ≤ i ∧ i < k
    · rw [if_pos q2, if_pos (by omega)]
    · rw [if_neg q2, if_neg (by omega)]
theorem nr_rng {z r n m : Int} {d : Int → Int} (e13 : n = m) (n13 : 0 ≤ m ∧ m ≤ 16) (e : r = if z = 0 then -9 else nrI d n.toNat) : r = -9 ∨ (0 ≤ r ∧ r < m) := by
  by_cases q : z = 0
  · rw [if_pos q] at e; exact Or.inl e
  · rw [if_neg q] at e
    have := nrI_rng d n.toNat
    omega
theorem near_d {σ u : St} {s : Int} (hq : eqM u σ) (h7 : u 7 s = pU (eX (σ 4 0) (mA σ) (mV σ) (mB σ) (mW σ) 0 s) (eY (σ 4 0) (mA σ) (mV σ) (mB σ) (mW σ) 0 s)) (h8 : u 8 s = pU (-(eX (σ 4 0) (mA σ) (mV σ) (mB σ) (mW σ) 0 s)) (-(eY (σ 4 0) (mA σ) (mV σ) (mB σ) (mW σ) 0 s))) : (fun k => ((u 14 k * u 8 s - u 3 0 * u 7 s).natAbs : Int)) = dM (σ 3 0) (σ 4 0) (mA σ) (mV σ) (mB σ) (mW σ) (σ 14) s := by
  funext k
  unfold dM tU tL
  rw [h7, h8, hq.2.2.2.1, hq.2.2.2.2.2.2.2]
theorem near_9 {σ u : St} {s r : Int} (hwf : WfM σ) (hs : 0 ≤ s ∧ s < σ 0 0) (hq : eqM u σ) (j : (0 ≤ u 7 s ∧ u 7 s ≤ 68719476736) ∧ (¬ u 7 s = 0 → jS (mA σ) (mV σ) (mB σ) (mW σ) (σ 4 0).toNat 0 s = jS (mA σ) (mV σ) (mB σ) (mW σ) (σ 4 0).toNat 0 0 ∧ u 7 s = pU (eX (σ 4 0) (mA σ) (mV σ) (mB σ) (mW σ) 0 s) (eY (σ 4 0) (mA σ) (mV σ) (mB σ) (mW σ) 0 s) ∧ u 8 s = pU (-(eX (σ 4 0) (mA σ) (mV σ) (mB σ) (mW σ) 0 s)) (-(eY (σ 4 0) (mA σ) (mV σ) (mB σ) (mW σ) 0 s)) ∧ u 9 s = iXor (jS (mA σ) (mV σ) (mB σ) (mW σ) (σ 4 0).toNat 3 0) (jS (mA σ) (mV σ) (mB σ) (mW σ) (σ 4 0).toNat 3 s) ∧ (1 ≤ u 7 s ∧ u 7 s ≤ 68719476736) ∧ (1 ≤ u 8 s ∧ u 8 s ≤ 68719476736) ∧ (0 ≤ u 9 s ∧ u 9 s < 4096)) ∧ (u 7 s = 0 → ¬ jS (mA σ) (mV σ) (mB σ) (mW σ) (σ 4 0).toNat 0 s = jS (mA σ) (mV σ) (mB σ) (mW σ) (σ 4 0).toNat 0 0)) (e : r = if u 7 s = 0 then -9 else nrI (fun k => ((u 14 k * u 8 s - u 3 0 * u 7 s).natAbs : Int)) (u 13 0).toNat) (h9 : r = -9) : -9 = fNear (σ 0 0) (σ 3 0) (σ 4 0) (mA σ) (mV σ) (mB σ) (mW σ) (σ 13 0) (σ 14) s := by
  unfold fNear
  rw [if_pos hs]
  by_cases q : u 7 s = 0
  · rw [if_neg (j.2.2 q)]
  · obtain ⟨jj, j7, j8, -⟩ := j.2.1 q
    rw [if_pos jj]
    rw [if_neg q, near_d hq j7 j8, hq.2.2.2.2.2.2.1] at e
    rw [← e, if_pos h9]
theorem near_k {σ u : St} {s r : Int} (hwf : WfM σ) (hs : 0 ≤ s ∧ s < σ 0 0) (hq : eqM u σ) (j : (0 ≤ u 7 s ∧ u 7 s ≤ 68719476736) ∧ (¬ u 7 s = 0 → jS (mA σ) (mV σ) (mB σ) (mW σ) (σ 4 0).toNat 0 s = jS (mA σ) (mV σ) (mB σ) (mW σ) (σ 4 0).toNat 0 0 ∧ u 7 s = pU (eX (σ 4 0) (mA σ) (mV σ) (mB σ) (mW σ) 0 s) (eY (σ 4 0) (mA σ) (mV σ) (mB σ) (mW σ) 0 s) ∧ u 8 s = pU (-(eX (σ 4 0) (mA σ) (mV σ) (mB σ) (mW σ) 0 s)) (-(eY (σ 4 0) (mA σ) (mV σ) (mB σ) (mW σ) 0 s)) ∧ u 9 s = iXor (jS (mA σ) (mV σ) (mB σ) (mW σ) (σ 4 0).toNat 3 0) (jS (mA σ) (mV σ) (mB σ) (mW σ) (σ 4 0).toNat 3 s) ∧ (1 ≤ u 7 s ∧ u 7 s ≤ 68719476736) ∧ (1 ≤ u 8 s ∧ u 8 s ≤ 68719476736) ∧ (0 ≤ u 9 s ∧ u 9 s < 4096)) ∧ (u 7 s = 0 → ¬ jS (mA σ) (mV σ) (mB σ) (mW σ) (σ 4 0).toNat 0 s = jS (mA σ) (mV σ) (mB σ) (mW σ) (σ 4 0).toNat 0 0)) (e : r = if u 7 s = 0 then -9 else nrI (fun k => ((u 14 k * u 8 s - u 3 0 * u 7 s).natAbs : Int)) (u 13 0).toNat) (h9 : ¬ r = -9) : u 14 r = fNear (σ 0 0) (σ 3 0) (σ 4 0) (mA σ) (mV σ) (mB σ) (mW σ) (σ 13 0) (σ 14) s := by
  unfold fNear
  rw [if_pos hs]
  by_cases q : u 7 s = 0
  · rw [if_pos q] at e; exact absurd e h9
  · obtain ⟨jj, j7, j8, -⟩ := j.2.1 q
    rw [if_pos jj]
    rw [if_neg q, near_d hq j7 j8, hq.2.2.2.2.2.2.1] at e
    rw [← e, if_neg h9, hq.2.2.2.2.2.2.2]
theorem away_9 {σ u : St} {s r wh : Int} (hwf : WfM σ) (hs : 0 ≤ s ∧ s < σ 0 0) (hw : 0 ≤ wh ∧ wh ≤ 1) (hq : eqM u σ) (j : (0 ≤ u 7 s ∧ u 7 s ≤ 68719476736) ∧ (¬ u 7 s = 0 → jS (mA σ) (mV σ) (mB σ) (mW σ) (σ 4 0).toNat 0 s = jS (mA σ) (mV σ) (mB σ) (mW σ) (σ 4 0).toNat 0 0 ∧ u 7 s = pU (eX (σ 4 0) (mA σ) (mV σ) (mB σ) (mW σ) 0 s) (eY (σ 4 0) (mA σ) (mV σ) (mB σ) (mW σ) 0 s) ∧ u 8 s = pU (-(eX (σ 4 0) (mA σ) (mV σ) (mB σ) (mW σ) 0 s)) (-(eY (σ 4 0) (mA σ) (mV σ) (mB σ) (mW σ) 0 s)) ∧ u 9 s = iXor (jS (mA σ) (mV σ) (mB σ) (mW σ) (σ 4 0).toNat 3 0) (jS (mA σ) (mV σ) (mB σ) (mW σ) (σ 4 0).toNat 3 s) ∧ (1 ≤ u 7 s ∧ u 7 s ≤ 68719476736) ∧ (1 ≤ u 8 s ∧ u 8 s ≤ 68719476736) ∧ (0 ≤ u 9 s ∧ u 9 s < 4096)) ∧ (u 7 s = 0 → ¬ jS (mA σ) (mV σ) (mB σ) (mW σ) (σ 4 0).toNat 0 s = jS (mA σ) (mV σ) (mB σ) (mW σ) (σ 4 0).toNat 0 0)) (e : r = if u 7 s = 0 then -9 else nrI (fun k => ((u 14 k * u 8 s - u 3 0 * u 7 s).natAbs : Int)) (u 13 0).toNat) (h9 : r = -9) : -9 = fAway (σ 0 0) (σ 3 0) (σ 4 0) (mA σ) (mV σ) (mB σ) (mW σ) (σ 13 0) (σ 14) s wh := by
  unfold fAway
  rw [if_pos hs, if_pos hw]
  by_cases q : u 7 s = 0
  · rw [if_neg (j.2.2 q)]
  · obtain ⟨jj, j7, j8, -⟩ := j.2.1 q
    rw [if_pos jj]
    rw [if_neg q, near_d hq j7 j8, hq.2.2.2.2.2.2.1] at e
    rw [← e, if_pos h9]
theorem away_0 {σ u : St} {s r wh : Int} (hwf : WfM σ) (hs : 0 ≤ s ∧ s < σ 0 0) (hw : 0 ≤ wh ∧ wh ≤ 1) (hq : eqM u σ) (j : (0 ≤ u 7 s ∧ u 7 s ≤ 68719476736) ∧ (¬ u 7 s = 0 → jS (mA σ) (mV σ) (mB σ) (mW σ) (σ 4 0).toNat 0 s = jS (mA σ) (mV σ) (mB σ) (mW σ) (σ 4 0).toNat 0 0 ∧ u 7 s = pU (eX (σ 4 0) (mA σ) (mV σ) (mB σ) (mW σ) 0 s) (eY (σ 4 0) (mA σ) (mV σ) (mB σ) (mW σ) 0 s) ∧ u 8 s = pU (-(eX (σ 4 0) (mA σ) (mV σ) (mB σ) (mW σ) 0 s)) (-(eY (σ 4 0) (mA σ) (mV σ) (mB σ) (mW σ) 0 s)) ∧ u 9 s = iXor (jS (mA σ) (mV σ) (mB σ) (mW σ) (σ 4 0).toNat 3 0) (jS (mA σ) (mV σ) (mB σ) (mW σ) (σ 4 0).toNat 3 s) ∧ (1 ≤ u 7 s ∧ u 7 s ≤ 68719476736) ∧ (1 ≤ u 8 s ∧ u 8 s ≤ 68719476736) ∧ (0 ≤ u 9 s ∧ u 9 s < 4096)) ∧ (u 7 s = 0 → ¬ jS (mA σ) (mV σ) (mB σ) (mW σ) (σ 4 0).toNat 0 s = jS (mA σ) (mV σ) (mB σ) (mW σ) (σ 4 0).toNat 0 0)) (e : r = if u 7 s = 0 then -9 else nrI (fun k => ((u 14 k * u 8 s - u 3 0 * u 7 s).natAbs : Int)) (u 13 0).toNat) (h9 : ¬ r = -9) (hz : ((u 14 r * u 8 s - u 3 0 * u 7 s).natAbs : Int) = 0) : wh = fAway (σ 0 0) (σ 3 0) (σ 4 0) (mA σ) (mV σ) (mB σ) (mW σ) (σ 13 0) (σ 14) s wh := by
  unfold fAway
  rw [if_pos hs, if_pos hw]
  by_cases q : u 7 s = 0
  · rw [if_pos q] at e; exact absurd e h9
  · obtain ⟨jj, j7, j8, -⟩ := j.2.1 q
    rw [if_pos jj]
    have hd := near_d hq j7 j8
    rw [if_neg q, hd, hq.2.2.2.2.2.2.1] at e
    have hz2 : dM (σ 3 0) (σ 4 0) (mA σ) (mV σ) (mB σ) (mW σ) (σ 14) s r = 0 := by rw [← hd]; exact hz
    rw [← e, if_neg h9, if_pos hz2]
theorem away_k {σ u : St} {s r wh : Int} (hwf : WfM σ) (hs : 0 ≤ s ∧ s < σ 0 0) (hw : 0 ≤ wh ∧ wh ≤ 1) (hq : eqM u σ) (j : (0 ≤ u 7 s ∧ u 7 s ≤ 68719476736) ∧ (¬ u 7 s = 0 → jS (mA σ) (mV σ) (mB σ) (mW σ) (σ 4 0).toNat 0 s = jS (mA σ) (mV σ) (mB σ) (mW σ) (σ 4 0).toNat 0 0 ∧ u 7 s = pU (eX (σ 4 0) (mA σ) (mV σ) (mB σ) (mW σ) 0 s) (eY (σ 4 0) (mA σ) (mV σ) (mB σ) (mW σ) 0 s) ∧ u 8 s = pU (-(eX (σ 4 0) (mA σ) (mV σ) (mB σ) (mW σ) 0 s)) (-(eY (σ 4 0) (mA σ) (mV σ) (mB σ) (mW σ) 0 s)) ∧ u 9 s = iXor (jS (mA σ) (mV σ) (mB σ) (mW σ) (σ 4 0).toNat 3 0) (jS (mA σ) (mV σ) (mB σ) (mW σ) (σ 4 0).toNat 3 s) ∧ (1 ≤ u 7 s ∧ u 7 s ≤ 68719476736) ∧ (1 ≤ u 8 s ∧ u 8 s ≤ 68719476736) ∧ (0 ≤ u 9 s ∧ u 9 s < 4096)) ∧ (u 7 s = 0 → ¬ jS (mA σ) (mV σ) (mB σ) (mW σ) (σ 4 0).toNat 0 s = jS (mA σ) (mV σ) (mB σ) (mW σ) (σ 4 0).toNat 0 0)) (e : r = if u 7 s = 0 then -9 else nrI (fun k => ((u 14 k * u 8 s - u 3 0 * u 7 s).natAbs : Int)) (u 13 0).toNat) (h9 : ¬ r = -9) (hz : ¬ ((u 14 r * u 8 s - u 3 0 * u 7 s).natAbs : Int) = 0) : (if wh = 0 then ((u 14 r * u 8 s - u 3 0 * u 7 s).natAbs : Int) / gcdI ((u 14 r * u 8 s - u 3 0 * u 7 s).natAbs : Int) (u 8 s) else u 8 s / gcdI ((u 14 r * u 8 s - u 3 0 * u 7 s).natAbs : Int) (u 8 s)) = fAway (σ 0 0) (σ 3 0) (σ 4 0) (mA σ) (mV σ) (mB σ) (mW σ) (σ 13 0) (σ 14) s wh := by
  unfold fAway
  rw [if_pos hs, if_pos hw]
  by_cases q : u 7 s = 0
  · rw [if_pos q] at e; exact absurd e h9
  · obtain ⟨jj, j7, j8, -⟩ := j.2.1 q
    rw [if_pos jj]
    have hd := near_d hq j7 j8
    rw [if_neg q, hd, hq.2.2.2.2.2.2.1] at e
    have hz2 : dM (σ 3 0) (σ 4 0) (mA σ) (mV σ) (mB σ) (mW σ) (σ 14) s r = ((u 14 r * u 8 s - u 3 0 * u 7 s).natAbs : Int) := by rw [← hd]
    have hl : tL (σ 4 0) (mA σ) (mV σ) (mB σ) (mW σ) s = u 8 s := by rw [j8]; rfl
    rw [← e, if_neg h9, hz2, if_neg hz, hl]

set_option maxHeartbeats 4000000 in
set_option maxRecDepth 100000 in
theorem kX6_takesMark (l : Launch) (D : va_G) (E : Nat → Nat) (q : Nat → Nat) (σ : St) (m_ : Int) (hwf : WfM σ) (hr : (20 ≤ m_ ∧ m_ ≤ 400) ∧ σ 13 0 < 16) : CtV l D E yX6_takesMark wsX6_takesMark ({ frames := 0, cells := 0, slots := 0, locals := 0 } : Room) [.ref (q 0), .int (jI m_)] (MW E q σ) (MW E q) (fun (uu : St) => (∀ F, F ≠ 13 → F ≠ 14 → uu F = σ F) ∧ uu 13 0 = σ 13 0 + 1 ∧ uu 14 = insM (σ 14) m_ (σ 13 0)) := by
  refine mk_V (cc := cX6_takesMark) (maxL := 3) (ret := none) (by decide) rfl (Nat.le_of_ble_eq_true rfl) ?_
  intro p e s m args below meth c A X hret
  have hin6 : ∀ x ∈ u_ws RX6 TX6 19, x ∈ wsX6_takesMark := fun _ h => List.mem_cons_of_mem _ (List.mem_append_right _ h)
  refine z_lv (lv' := [(0, .ref (q 0)), (1, .int (jI m_))]) [0, 1] rfl ?_
  obtain ⟨n0, n3, n4, n13⟩ := hwf.n
  have hmk := hwf.2.2.2.2.2.2.2.1
  refine z_aload_n (pc' := 1) X dX6_takesMark_0 rfl 0 rfl rfl ?_
  refine z_get (pc' := 4) (C := RX6) (ref := "PivotBeatsModel") (T := TX6) (N := 19) (v := .int (jI (σ 13 0))) X dX6_takesMark_1 rfl hin6 0 rfl rfl 13 (by decide) (by decide +kernel) rfl rfl ?_
  refine z_istore_n (pc' := 5) (lv' := [(2, .int (jI (σ 13 0))), (0, .ref (q 0)), (1, .int (jI m_))]) X dX6_takesMark_4 rfl rfl (by decide) rfl ?_
  have lp5 : ∀ (nF : Nat) (k : Int) (u1 : St) , ((0 ≤ k ∧ k ≤ σ 13 0) ∧ (∀ F, F ≠ 14 → u1 F = σ F) ∧ (∀ i, u1 14 i = if k < i ∧ i ≤ σ 13 0 then σ 14 (i - 1) else σ 14 i) ∧ (∀ i, k ≤ i → i < σ 13 0 → m_ < σ 14 i)) → (k.toNat : Nat) < nF → J p l e (headSpec wsX6_takesMark ({ frames := 0, cells := 0, slots := 0, locals := 0 } : Room)).room s m args below meth c D A 3 (MQ below (va_Qv (fun (uu : St) => (∀ F, F ≠ 13 → F ≠ 14 → uu F = σ F) ∧ uu 13 0 = σ 13 0 + 1 ∧ uu 14 = insM (σ 14) m_ (σ 13 0)) (Bw D (MW E q) A) A) args s 0 0 A) 5 [(2, .int (jI k)), (0, .ref (q 0)), (1, .int (jI m_))] [] (MW E q u1) := by
    intro nF
    induction nF with
    | zero => intro k u1  hI hn; exact absurd hn (Nat.not_lt_zero _)
    | succ nF ih5 =>
      intro k u1  hI hn
      obtain ⟨h1, h2, h3, h4⟩ := hI
      refine z_iload_n (pc' := 6) X dX6_takesMark_5 rfl 0 rfl rfl ?_
      refine z_if_le (tgt := 41) (pc' := 9) X dX6_takesMark_6 (by decide) rfl (by omega) (fun h6 => ?_) (fun h6 => ?_)
      · refine z_aload_n (pc' := 42) X dX6_takesMark_41 rfl 1 rfl rfl ?_
        refine z_get (pc' := 45) (C := RX6) (ref := "PivotBeatsModel") (T := TX6) (N := 19) (v := .ref (q 14)) X dX6_takesMark_42 rfl hin6 0 rfl rfl 14 (by decide) (by decide +kernel) rfl rfl ?_
        refine z_iload_n (pc' := 46) X dX6_takesMark_45 rfl 0 rfl rfl ?_
        refine z_iload_n (pc' := 47) X dX6_takesMark_46 rfl 2 rfl rfl ?_
        refine z_iast (pc' := 48) (f := u1 14) (n := 16) (w' := MW E q (up u1 14 k m_)) X dX6_takesMark_47 rfl 10 rfl (by decide) (by omega) rfl ?_
        refine z_aload_n (pc' := 49) X dX6_takesMark_48 rfl 1 rfl rfl ?_
        refine z_dup (pc' := 50) X dX6_takesMark_49 rfl rfl ?_
        refine z_get (pc' := 53) (C := RX6) (ref := "PivotBeatsModel") (T := TX6) (N := 19) (v := .int (jI (u1 13 0))) X dX6_takesMark_50 rfl hin6 0 rfl rfl 13 (by decide) (by decide +kernel) rfl rfl ?_
        refine z_iconst (pc' := 54) X dX6_takesMark_53 rfl ?_
        refine z_iadd (pc' := 55) X dX6_takesMark_54 rfl ?_
        refine z_put (pc' := 58) (C := RX6) (ref := "PivotBeatsModel") (T := TX6) (N := 19) (ty := .int) (w' := MW E q (up (up u1 14 k m_) 13 0 ((u1 13 0) + 1))) X dX6_takesMark_55 rfl hin6 tyX6 tyX6_ok nmX6 0 rfl rfl 13 (by decide) (by decide +kernel) rfl rfl (by decide +kernel) rfl rfl (Nat.le_of_ble_eq_true rfl) rfl ?_
        exact z_vret (post := (fun (uu : St) => (∀ F, F ≠ 13 → F ≠ 14 → uu F = σ F) ∧ uu 13 0 = σ 13 0 + 1 ∧ uu 14 = insM (σ 14) m_ (σ 13 0))) X dX6_takesMark_58 hret (up (up u1 14 k m_) 13 0 ((u1 13 0) + 1)) (⟨fun F h13 h14 => by rw [← h2 F h14]; funext i; rw [up_f _ _ _ _ h13, up_f _ _ _ _ h14], by rw [up_s]; show u1 13 0 + 1 = _; rw [h2 13 (by decide)], tm_end h1 h3 h4 (by first | exact Or.inl (by omega) | exact Or.inr (by rw [← e1]; exact h18))⟩)
      · have e1 : u1 14 (k - 1) = σ 14 (k - 1) := by rw [h3, if_neg (by omega)]
        have hb := hmk (k - 1) (by omega) (by omega)
        refine z_aload_n (pc' := 10) X dX6_takesMark_9 rfl 1 rfl rfl ?_
        refine z_get (pc' := 13) (C := RX6) (ref := "PivotBeatsModel") (T := TX6) (N := 19) (v := .ref (q 14)) X dX6_takesMark_10 rfl hin6 0 rfl rfl 14 (by decide) (by decide +kernel) rfl rfl ?_
        refine z_iload_n (pc' := 14) X dX6_takesMark_13 rfl 0 rfl rfl ?_
        refine z_iconst (pc' := 15) X dX6_takesMark_14 rfl ?_
        refine z_isub (pc' := 16) X dX6_takesMark_15 rfl ?_
        refine z_iald (pc' := 17) (f := u1 14) (n := 16) X dX6_takesMark_16 rfl 10 rfl (by decide) (by omega) ?_
        refine z_iload_n (pc' := 18) X dX6_takesMark_17 rfl 2 rfl rfl ?_
        refine z_icmp_le (tgt := 41) (pc' := 21) X dX6_takesMark_18 (by decide) rfl (by (rw [e1]; omega)) (fun h18 => ?_) (fun h18 => ?_)
        · refine z_aload_n (pc' := 42) X dX6_takesMark_41 rfl 1 rfl rfl ?_
          refine z_get (pc' := 45) (C := RX6) (ref := "PivotBeatsModel") (T := TX6) (N := 19) (v := .ref (q 14)) X dX6_takesMark_42 rfl hin6 0 rfl rfl 14 (by decide) (by decide +kernel) rfl rfl ?_
          refine z_iload_n (pc' := 46) X dX6_takesMark_45 rfl 0 rfl rfl ?_
          refine z_iload_n (pc' := 47) X dX6_takesMark_46 rfl 2 rfl rfl ?_
          refine z_iast (pc' := 48) (f := u1 14) (n := 16) (w' := MW E q (up u1 14 k m_)) X dX6_takesMark_47 rfl 10 rfl (by decide) (by omega) rfl ?_
          refine z_aload_n (pc' := 49) X dX6_takesMark_48 rfl 1 rfl rfl ?_
          refine z_dup (pc' := 50) X dX6_takesMark_49 rfl rfl ?_
          refine z_get (pc' := 53) (C := RX6) (ref := "PivotBeatsModel") (T := TX6) (N := 19) (v := .int (jI (u1 13 0))) X dX6_takesMark_50 rfl hin6 0 rfl rfl 13 (by decide) (by decide +kernel) rfl rfl ?_
          refine z_iconst (pc' := 54) X dX6_takesMark_53 rfl ?_
          refine z_iadd (pc' := 55) X dX6_takesMark_54 rfl ?_
          refine z_put (pc' := 58) (C := RX6) (ref := "PivotBeatsModel") (T := TX6) (N := 19) (ty := .int) (w' := MW E q (up (up u1 14 k m_) 13 0 ((u1 13 0) + 1))) X dX6_takesMark_55 rfl hin6 tyX6 tyX6_ok nmX6 0 rfl rfl 13 (by decide) (by decide +kernel) rfl rfl (by decide +kernel) rfl rfl (Nat.le_of_ble_eq_true rfl) rfl ?_
          exact z_vret (post := (fun (uu : St) => (∀ F, F ≠ 13 → F ≠ 14 → uu F = σ F) ∧ uu 13 0 = σ 13 0 + 1 ∧ uu 14 = insM (σ 14) m_ (σ 13 0))) X dX6_takesMark_58 hret (up (up u1 14 k m_) 13 0 ((u1 13 0) + 1)) (⟨fun F h13 h14 => by rw [← h2 F h14]; funext i; rw [up_f _ _ _ _ h13, up_f _ _ _ _ h14], by rw [up_s]; show u1 13 0 + 1 = _; rw [h2 13 (by decide)], tm_end h1 h3 h4 (by first | exact Or.inl (by omega) | exact Or.inr (by rw [← e1]; exact h18))⟩)
        · refine z_aload_n (pc' := 22) X dX6_takesMark_21 rfl 1 rfl rfl ?_
          refine z_get (pc' := 25) (C := RX6) (ref := "PivotBeatsModel") (T := TX6) (N := 19) (v := .ref (q 14)) X dX6_takesMark_22 rfl hin6 0 rfl rfl 14 (by decide) (by decide +kernel) rfl rfl ?_
          refine z_iload_n (pc' := 26) X dX6_takesMark_25 rfl 0 rfl rfl ?_
          refine z_aload_n (pc' := 27) X dX6_takesMark_26 rfl 1 rfl rfl ?_
          refine z_get (pc' := 30) (C := RX6) (ref := "PivotBeatsModel") (T := TX6) (N := 19) (v := .ref (q 14)) X dX6_takesMark_27 rfl hin6 0 rfl rfl 14 (by decide) (by decide +kernel) rfl rfl ?_
          refine z_iload_n (pc' := 31) X dX6_takesMark_30 rfl 0 rfl rfl ?_
          refine z_iconst (pc' := 32) X dX6_takesMark_31 rfl ?_
          refine z_isub (pc' := 33) X dX6_takesMark_32 rfl ?_
          refine z_iald (pc' := 34) (f := u1 14) (n := 16) X dX6_takesMark_33 rfl 10 rfl (by decide) (by omega) ?_
          refine z_iast (pc' := 35) (f := u1 14) (n := 16) (w' := MW E q (up u1 14 k (u1 14 (k - 1)))) X dX6_takesMark_34 rfl 10 rfl (by decide) (by omega) rfl ?_
          refine z_iinc (pc' := 38) (lv' := [(2, .int (jI (k + (-1)))), (0, .ref (q 0)), (1, .int (jI m_))]) X dX6_takesMark_35 rfl 0 rfl (by decide) rfl ?_
          refine z_goto (tgt := 5) X dX6_takesMark_38 (by decide) ?_
          exact ih5 (k + (-1)) (up u1 14 k (u1 14 (k - 1)))  (⟨by omega, fun F hF => by rw [← h2 F hF]; funext i; exact up_f _ _ _ _ hF, tm_step h1 h3 (by omega), tm_g h4 (by omega)⟩) (by omega)
  exact lp5 _ (σ 13 0) σ  (⟨by omega, fun _ _ => rfl, fun i => by rw [if_neg (by omega)], fun i h1 h2 => by omega⟩) (Nat.lt_succ_self _)
set_option maxHeartbeats 4000000 in
set_option maxRecDepth 100000 in
theorem kX6_losesMark (l : Launch) (D : va_G) (E : Nat → Nat) (q : Nat → Nat) (σ : St) (place : Int) (hwf : WfM σ) (hr : 0 ≤ place ∧ place < σ 13 0) : CtV l D E yX6_losesMark wsX6_losesMark ({ frames := 0, cells := 0, slots := 0, locals := 0 } : Room) [.ref (q 0), .int (jI place)] (MW E q σ) (MW E q) (fun (uu : St) => (∀ F, F ≠ 13 → F ≠ 14 → uu F = σ F) ∧ uu 13 0 = σ 13 0 - 1 ∧ uu 14 = delM (σ 14) place (σ 13 0)) := by
  refine mk_V (cc := cX6_losesMark) (maxL := 3) (ret := none) (by decide) rfl (Nat.le_of_ble_eq_true rfl) ?_
  intro p e s m args below meth c A X hret
  have hin6 : ∀ x ∈ u_ws RX6 TX6 19, x ∈ wsX6_losesMark := fun _ h => List.mem_cons_of_mem _ (List.mem_append_right _ h)
  refine z_lv (lv' := [(0, .ref (q 0)), (1, .int (jI place))]) [0, 1] rfl ?_
  obtain ⟨n0, n3, n4, n13⟩ := hwf.n
  refine z_aload_n (pc' := 1) X dX6_losesMark_0 rfl 0 rfl rfl ?_
  refine z_dup (pc' := 2) X dX6_losesMark_1 rfl rfl ?_
  refine z_get (pc' := 5) (C := RX6) (ref := "PivotBeatsModel") (T := TX6) (N := 19) (v := .int (jI (σ 13 0))) X dX6_losesMark_2 rfl hin6 0 rfl rfl 13 (by decide) (by decide +kernel) rfl rfl ?_
  refine z_iconst (pc' := 6) X dX6_losesMark_5 rfl ?_
  refine z_isub (pc' := 7) X dX6_losesMark_6 rfl ?_
  refine z_put (pc' := 10) (C := RX6) (ref := "PivotBeatsModel") (T := TX6) (N := 19) (ty := .int) (w' := MW E q (up σ 13 0 ((σ 13 0) - 1))) X dX6_losesMark_7 rfl hin6 tyX6 tyX6_ok nmX6 0 rfl rfl 13 (by decide) (by decide +kernel) rfl rfl (by decide +kernel) rfl rfl (Nat.le_of_ble_eq_true rfl) rfl ?_
  refine z_iload_n (pc' := 11) X dX6_losesMark_10 rfl 1 rfl rfl ?_
  refine z_istore_n (pc' := 12) (lv' := [(2, .int (jI place)), (0, .ref (q 0)), (1, .int (jI place))]) X dX6_losesMark_11 rfl rfl (by decide) rfl ?_
  have lp12 : ∀ (nF : Nat) (k : Int) (u1 : St) , ((place ≤ k ∧ k ≤ σ 13 0 - 1) ∧ (∀ F, F ≠ 13 → F ≠ 14 → u1 F = σ F) ∧ u1 13 0 = σ 13 0 - 1 ∧ (∀ i, u1 14 i = if place ≤ i ∧ i < k then σ 14 (i + 1) else σ 14 i)) → ((16 - k).toNat : Nat) < nF → J p l e (headSpec wsX6_losesMark ({ frames := 0, cells := 0, slots := 0, locals := 0 } : Room)).room s m args below meth c D A 3 (MQ below (va_Qv (fun (uu : St) => (∀ F, F ≠ 13 → F ≠ 14 → uu F = σ F) ∧ uu 13 0 = σ 13 0 - 1 ∧ uu 14 = delM (σ 14) place (σ 13 0)) (Bw D (MW E q) A) A) args s 0 0 A) 12 [(2, .int (jI k)), (0, .ref (q 0)), (1, .int (jI place))] [] (MW E q u1) := by
    intro nF
    induction nF with
    | zero => intro k u1  hI hn; exact absurd hn (Nat.not_lt_zero _)
    | succ nF ih12 =>
      intro k u1  hI hn
      obtain ⟨h1, h2, h3, h4⟩ := hI
      refine z_iload_n (pc' := 13) X dX6_losesMark_12 rfl 0 rfl rfl ?_
      refine z_aload_n (pc' := 14) X dX6_losesMark_13 rfl 1 rfl rfl ?_
      refine z_get (pc' := 17) (C := RX6) (ref := "PivotBeatsModel") (T := TX6) (N := 19) (v := .int (jI (u1 13 0))) X dX6_losesMark_14 rfl hin6 0 rfl rfl 13 (by decide) (by decide +kernel) rfl rfl ?_
      refine z_icmp_ge (tgt := 40) (pc' := 20) X dX6_losesMark_17 (by decide) rfl (by omega) (fun h17 => ?_) (fun h17 => ?_)
      · exact z_vret (post := (fun (uu : St) => (∀ F, F ≠ 13 → F ≠ 14 → uu F = σ F) ∧ uu 13 0 = σ 13 0 - 1 ∧ uu 14 = delM (σ 14) place (σ 13 0))) X dX6_losesMark_40 hret u1 (⟨h2, h3, by funext i; rw [h4 i]; unfold delM; rw [show k = σ 13 0 - 1 by omega]⟩)
      · refine z_aload_n (pc' := 21) X dX6_losesMark_20 rfl 1 rfl rfl ?_
        refine z_get (pc' := 24) (C := RX6) (ref := "PivotBeatsModel") (T := TX6) (N := 19) (v := .ref (q 14)) X dX6_losesMark_21 rfl hin6 0 rfl rfl 14 (by decide) (by decide +kernel) rfl rfl ?_
        refine z_iload_n (pc' := 25) X dX6_losesMark_24 rfl 0 rfl rfl ?_
        refine z_aload_n (pc' := 26) X dX6_losesMark_25 rfl 1 rfl rfl ?_
        refine z_get (pc' := 29) (C := RX6) (ref := "PivotBeatsModel") (T := TX6) (N := 19) (v := .ref (q 14)) X dX6_losesMark_26 rfl hin6 0 rfl rfl 14 (by decide) (by decide +kernel) rfl rfl ?_
        refine z_iload_n (pc' := 30) X dX6_losesMark_29 rfl 0 rfl rfl ?_
        refine z_iconst (pc' := 31) X dX6_losesMark_30 rfl ?_
        refine z_iadd (pc' := 32) X dX6_losesMark_31 rfl ?_
        refine z_iald (pc' := 33) (f := u1 14) (n := 16) X dX6_losesMark_32 rfl 10 rfl (by decide) (by omega) ?_
        refine z_iast (pc' := 34) (f := u1 14) (n := 16) (w' := MW E q (up u1 14 k (u1 14 (k + 1)))) X dX6_losesMark_33 rfl 10 rfl (by decide) (by omega) rfl ?_
        refine z_iinc (pc' := 37) (lv' := [(2, .int (jI (k + 1))), (0, .ref (q 0)), (1, .int (jI place))]) X dX6_losesMark_34 rfl 0 rfl (by decide) rfl ?_
        refine z_goto (tgt := 12) X dX6_losesMark_37 (by decide) ?_
        exact ih12 (k + 1) (up u1 14 k (u1 14 (k + 1)))  (⟨by omega, fun F a1 a2 => by rw [← h2 F a1 a2]; funext i; exact up_f _ _ _ _ a2, h3, lo_step h1.1 h4⟩) (by omega)
  exact lp12 _ place (up σ 13 0 ((σ 13 0) - 1))  (⟨by omega, fun F h13 _ => by funext i; exact up_f _ _ _ _ h13, up_s _ _ _ _, fun i => by rw [if_neg (by omega)]; rfl⟩) (Nat.lt_succ_self _)
set_option maxHeartbeats 4000000 in
set_option maxRecDepth 100000 in
theorem kX6_mark (l : Launch) (D : va_G) (E : Nat → Nat) (q : Nat → Nat) (σ : St) (m_ is : Int) (hwf : WfM σ) (hr : (-2147483648 ≤ m_ ∧ m_ < 2147483648) ∧ (0 ≤ is ∧ is ≤ 1)) : CtI l D E yX6_mark wsX6_mark ({ frames := 1, cells := 0, slots := 0, locals := 22 } : Room) [.ref (q 0), .int (jI m_), .int (jI is)] (MW E q σ) (MW E q) (fun (rv : Int) (uu : St) => ((¬ (20 ≤ m_ ∧ m_ ≤ 400) ∧ rv = -2 ∧ uu = σ) ∨ ((20 ≤ m_ ∧ m_ ≤ 400) ∧ ((is = 1 ∧ ¬ ixF (σ 14) m_ (σ 13 0).toNat = -9) ∨ (is = 0 ∧ ixF (σ 14) m_ (σ 13 0).toNat = -9)) ∧ rv = 0 ∧ uu = σ) ∨ ((20 ≤ m_ ∧ m_ ≤ 400) ∧ is = 1 ∧ ixF (σ 14) m_ (σ 13 0).toNat = -9 ∧ σ 13 0 = 16 ∧ rv = -4 ∧ uu = σ) ∨ ((20 ≤ m_ ∧ m_ ≤ 400) ∧ is = 1 ∧ ixF (σ 14) m_ (σ 13 0).toNat = -9 ∧ ¬ σ 13 0 = 16 ∧ rv = 1 ∧ (∀ F, F ≠ 13 → F ≠ 14 → uu F = σ F) ∧ uu 13 0 = σ 13 0 + 1 ∧ uu 14 = insM (σ 14) m_ (σ 13 0)) ∨ ((20 ≤ m_ ∧ m_ ≤ 400) ∧ is = 0 ∧ ¬ ixF (σ 14) m_ (σ 13 0).toNat = -9 ∧ rv = 1 ∧ (∀ F, F ≠ 13 → F ≠ 14 → uu F = σ F) ∧ uu 13 0 = σ 13 0 - 1 ∧ uu 14 = delM (σ 14) (ixF (σ 14) m_ (σ 13 0).toNat) (σ 13 0)))) := by
  refine mk_I (cc := cX6_mark) (maxL := 4) (ret := some .int) (by decide) rfl (Nat.le_of_ble_eq_true rfl) ?_
  intro p e s m args below meth c A X hret
  have hin6 : ∀ x ∈ u_ws RX6 TX6 19, x ∈ wsX6_mark := fun _ h => List.mem_cons_of_mem _ (List.mem_append_right _ h)
  refine z_lv (lv' := [(0, .ref (q 0)), (1, .int (jI m_)), (2, .int (jI is))]) [0, 1, 2] rfl ?_
  obtain ⟨n0, n3, n4, n13⟩ := hwf.n
  have hi := ixF_cases (σ 14) m_ (σ 13 0).toNat
  refine z_iload_n (pc' := 1) X dX6_mark_0 rfl 1 rfl rfl ?_
  refine z_bipush (pc' := 3) X dX6_mark_1 rfl rfl ?_
  refine z_sipush (pc' := 6) X dX6_mark_3 rfl rfl ?_
  refine z_callPI (pc' := 9) (S := Unit) (As := [.int (jI m_), .int (jI 20), .int (jI 400)]) (rest := []) X dX6_mark_6 rfl (kX6_isIn l D E m_ 20 400  (by omega)) (va_cwS 3 X.1.2.2.2.2 gX6_mark_X6_isIn rfl rfl rfl (by decide +kernel) ⟨Nat.le_of_ble_eq_true rfl, Nat.le_of_ble_eq_true rfl⟩) rfl rfl (Nat.le_of_ble_eq_true rfl) (fun r6 u6 hp6 => ?_)
  skip
  rcases hp6 with ⟨rfl, hp6⟩ | ⟨rfl, hp6⟩
  · refine z_if_ne (tgt := 15) (pc' := 12) X dX6_mark_9 (by decide) rfl (by omega) (fun _ => ?_) (fun h => absurd h (by decide))
    refine z_aload_n (pc' := 16) X dX6_mark_15 rfl 0 rfl rfl ?_
    refine z_iload_n (pc' := 17) X dX6_mark_16 rfl 1 rfl rfl ?_
    refine z_callVI (pc' := 20) (S := St) (As := [.int (jI m_)]) (rest := []) X dX6_mark_17 rfl (kX6_placeOf l D E q σ m_  (hwf) (by omega)) (cwV 1 X.1.2.2.2.2 gX6_mark_X6_placeOf rfl rfl rfl (by decide +kernel) ⟨Nat.le_of_ble_eq_true rfl, Nat.le_of_ble_eq_true rfl⟩) 0 rfl rfl rfl rfl (Nat.le_of_ble_eq_true rfl) (fun r17 u17 hp17 => ?_)
    obtain ⟨rfl, hp17⟩ := hp17; replace hp17 := hp17.symm; subst hp17
    refine z_istore_n (pc' := 21) (lv' := [(3, .int (jI (ixF (σ 14) m_ (σ 13 0).toNat))), (0, .ref (q 0)), (1, .int (jI m_)), (2, .int (jI is))]) X dX6_mark_20 rfl rfl (by decide) rfl ?_
    refine z_iload_n (pc' := 22) X dX6_mark_21 rfl 3 rfl rfl ?_
    refine z_iload_n (pc' := 23) X dX6_mark_22 rfl 0 rfl rfl ?_
    refine z_bipush (pc' := 25) X dX6_mark_23 rfl rfl ?_
    refine z_icmp_eq (tgt := 32) (pc' := 28) X dX6_mark_25 (by decide) rfl (by (rcases hi with q | q <;> omega)) (fun h25 => ?_) (fun h25 => ?_)
    · refine z_iconst (pc' := 33) X dX6_mark_32 rfl ?_
      refine z_icmp_ne (tgt := 38) (pc' := 36) X dX6_mark_33 (by decide) rfl (by omega) (fun h33 => ?_) (fun h33 => ?_)
      · refine z_iload_n (pc' := 39) X dX6_mark_38 rfl 3 rfl rfl ?_
        refine z_if_eq (tgt := 54) (pc' := 42) X dX6_mark_39 (by decide) rfl (by omega) (fun h39 => ?_) (fun h39 => ?_)
        · refine z_iload_n (pc' := 55) X dX6_mark_54 rfl 3 rfl rfl ?_
          refine z_if_eq (tgt := 66) (pc' := 58) X dX6_mark_55 (by decide) rfl (by omega) (fun h55 => ?_) (fun h55 => by exfalso; omega)
          refine z_aload_n (pc' := 67) X dX6_mark_66 rfl 1 rfl rfl ?_
          refine z_iload_n (pc' := 68) X dX6_mark_67 rfl 0 rfl rfl ?_
          refine z_callVV (pc' := 71) (S := St) (As := [.int (jI (ixF (σ 14) m_ (σ 13 0).toNat))]) (rest := []) X dX6_mark_68 rfl (kX6_losesMark l D E q σ (ixF (σ 14) m_ (σ 13 0).toNat)  (hwf) (by rcases hi with q | q <;> omega)) (cwV 1 X.1.2.2.2.2 gX6_mark_X6_losesMark rfl rfl rfl (by decide +kernel) ⟨Nat.le_of_ble_eq_true rfl, Nat.le_of_ble_eq_true rfl⟩) 0 rfl rfl rfl rfl (Nat.le_of_ble_eq_true rfl) (fun u68 hp68 => ?_)
          obtain ⟨hn68, h1368, h1468⟩ := hp68
          refine z_iconst (pc' := 72) X dX6_mark_71 rfl ?_
          exact z_iret (post := (fun (rv : Int) (uu : St) => ((¬ (20 ≤ m_ ∧ m_ ≤ 400) ∧ rv = -2 ∧ uu = σ) ∨ ((20 ≤ m_ ∧ m_ ≤ 400) ∧ ((is = 1 ∧ ¬ ixF (σ 14) m_ (σ 13 0).toNat = -9) ∨ (is = 0 ∧ ixF (σ 14) m_ (σ 13 0).toNat = -9)) ∧ rv = 0 ∧ uu = σ) ∨ ((20 ≤ m_ ∧ m_ ≤ 400) ∧ is = 1 ∧ ixF (σ 14) m_ (σ 13 0).toNat = -9 ∧ σ 13 0 = 16 ∧ rv = -4 ∧ uu = σ) ∨ ((20 ≤ m_ ∧ m_ ≤ 400) ∧ is = 1 ∧ ixF (σ 14) m_ (σ 13 0).toNat = -9 ∧ ¬ σ 13 0 = 16 ∧ rv = 1 ∧ (∀ F, F ≠ 13 → F ≠ 14 → uu F = σ F) ∧ uu 13 0 = σ 13 0 + 1 ∧ uu 14 = insM (σ 14) m_ (σ 13 0)) ∨ ((20 ≤ m_ ∧ m_ ≤ 400) ∧ is = 0 ∧ ¬ ixF (σ 14) m_ (σ 13 0).toNat = -9 ∧ rv = 1 ∧ (∀ F, F ≠ 13 → F ≠ 14 → uu F = σ F) ∧ uu 13 0 = σ 13 0 - 1 ∧ uu 14 = delM (σ 14) (ixF (σ 14) m_ (σ 13 0).toNat) (σ 13 0))))) X dX6_mark_72 hret u68 (by first | exact Or.inr (Or.inr (Or.inr (Or.inl ⟨hp6, by omega, by omega, by omega, rfl, hn60, h1360, h1460⟩))) | exact Or.inr (Or.inr (Or.inr (Or.inr ⟨hp6, by omega, by omega, rfl, hn68, h1368, h1468⟩))))
        · refine z_aload_n (pc' := 43) X dX6_mark_42 rfl 1 rfl rfl ?_
          refine z_get (pc' := 46) (C := RX6) (ref := "PivotBeatsModel") (T := TX6) (N := 19) (v := .int (jI (σ 13 0))) X dX6_mark_43 rfl hin6 0 rfl rfl 13 (by decide) (by decide +kernel) rfl rfl ?_
          refine z_bipush (pc' := 48) X dX6_mark_46 rfl rfl ?_
          refine z_icmp_ne (tgt := 54) (pc' := 51) X dX6_mark_48 (by decide) rfl (by omega) (fun h48 => ?_) (fun h48 => ?_)
          · refine z_iload_n (pc' := 55) X dX6_mark_54 rfl 3 rfl rfl ?_
            refine z_if_eq (tgt := 66) (pc' := 58) X dX6_mark_55 (by decide) rfl (by omega) (fun h55 => by exfalso; omega) (fun h55 => ?_)
            refine z_aload_n (pc' := 59) X dX6_mark_58 rfl 1 rfl rfl ?_
            refine z_iload_n (pc' := 60) X dX6_mark_59 rfl 2 rfl rfl ?_
            refine z_callVV (pc' := 63) (S := St) (As := [.int (jI m_)]) (rest := []) X dX6_mark_60 rfl (kX6_takesMark l D E q σ m_  (hwf) (by omega)) (cwV 1 X.1.2.2.2.2 gX6_mark_X6_takesMark rfl rfl rfl (by decide +kernel) ⟨Nat.le_of_ble_eq_true rfl, Nat.le_of_ble_eq_true rfl⟩) 0 rfl rfl rfl rfl (Nat.le_of_ble_eq_true rfl) (fun u60 hp60 => ?_)
            obtain ⟨hn60, h1360, h1460⟩ := hp60
            refine z_goto (tgt := 71) X dX6_mark_63 (by decide) ?_
            refine z_iconst (pc' := 72) X dX6_mark_71 rfl ?_
            exact z_iret (post := (fun (rv : Int) (uu : St) => ((¬ (20 ≤ m_ ∧ m_ ≤ 400) ∧ rv = -2 ∧ uu = σ) ∨ ((20 ≤ m_ ∧ m_ ≤ 400) ∧ ((is = 1 ∧ ¬ ixF (σ 14) m_ (σ 13 0).toNat = -9) ∨ (is = 0 ∧ ixF (σ 14) m_ (σ 13 0).toNat = -9)) ∧ rv = 0 ∧ uu = σ) ∨ ((20 ≤ m_ ∧ m_ ≤ 400) ∧ is = 1 ∧ ixF (σ 14) m_ (σ 13 0).toNat = -9 ∧ σ 13 0 = 16 ∧ rv = -4 ∧ uu = σ) ∨ ((20 ≤ m_ ∧ m_ ≤ 400) ∧ is = 1 ∧ ixF (σ 14) m_ (σ 13 0).toNat = -9 ∧ ¬ σ 13 0 = 16 ∧ rv = 1 ∧ (∀ F, F ≠ 13 → F ≠ 14 → uu F = σ F) ∧ uu 13 0 = σ 13 0 + 1 ∧ uu 14 = insM (σ 14) m_ (σ 13 0)) ∨ ((20 ≤ m_ ∧ m_ ≤ 400) ∧ is = 0 ∧ ¬ ixF (σ 14) m_ (σ 13 0).toNat = -9 ∧ rv = 1 ∧ (∀ F, F ≠ 13 → F ≠ 14 → uu F = σ F) ∧ uu 13 0 = σ 13 0 - 1 ∧ uu 14 = delM (σ 14) (ixF (σ 14) m_ (σ 13 0).toNat) (σ 13 0))))) X dX6_mark_72 hret u60 (by first | exact Or.inr (Or.inr (Or.inr (Or.inl ⟨hp6, by omega, by omega, by omega, rfl, hn60, h1360, h1460⟩))) | exact Or.inr (Or.inr (Or.inr (Or.inr ⟨hp6, by omega, by omega, rfl, hn68, h1368, h1468⟩))))
          · refine z_bipush (pc' := 53) X dX6_mark_51 rfl rfl ?_
            exact z_iret (post := (fun (rv : Int) (uu : St) => ((¬ (20 ≤ m_ ∧ m_ ≤ 400) ∧ rv = -2 ∧ uu = σ) ∨ ((20 ≤ m_ ∧ m_ ≤ 400) ∧ ((is = 1 ∧ ¬ ixF (σ 14) m_ (σ 13 0).toNat = -9) ∨ (is = 0 ∧ ixF (σ 14) m_ (σ 13 0).toNat = -9)) ∧ rv = 0 ∧ uu = σ) ∨ ((20 ≤ m_ ∧ m_ ≤ 400) ∧ is = 1 ∧ ixF (σ 14) m_ (σ 13 0).toNat = -9 ∧ σ 13 0 = 16 ∧ rv = -4 ∧ uu = σ) ∨ ((20 ≤ m_ ∧ m_ ≤ 400) ∧ is = 1 ∧ ixF (σ 14) m_ (σ 13 0).toNat = -9 ∧ ¬ σ 13 0 = 16 ∧ rv = 1 ∧ (∀ F, F ≠ 13 → F ≠ 14 → uu F = σ F) ∧ uu 13 0 = σ 13 0 + 1 ∧ uu 14 = insM (σ 14) m_ (σ 13 0)) ∨ ((20 ≤ m_ ∧ m_ ≤ 400) ∧ is = 0 ∧ ¬ ixF (σ 14) m_ (σ 13 0).toNat = -9 ∧ rv = 1 ∧ (∀ F, F ≠ 13 → F ≠ 14 → uu F = σ F) ∧ uu 13 0 = σ 13 0 - 1 ∧ uu 14 = delM (σ 14) (ixF (σ 14) m_ (σ 13 0).toNat) (σ 13 0))))) X dX6_mark_53 hret σ (Or.inr (Or.inr (Or.inl ⟨hp6, by omega, by omega, by omega, rfl, rfl⟩)))
      · refine z_iconst (pc' := 37) X dX6_mark_36 rfl ?_
        exact z_iret (post := (fun (rv : Int) (uu : St) => ((¬ (20 ≤ m_ ∧ m_ ≤ 400) ∧ rv = -2 ∧ uu = σ) ∨ ((20 ≤ m_ ∧ m_ ≤ 400) ∧ ((is = 1 ∧ ¬ ixF (σ 14) m_ (σ 13 0).toNat = -9) ∨ (is = 0 ∧ ixF (σ 14) m_ (σ 13 0).toNat = -9)) ∧ rv = 0 ∧ uu = σ) ∨ ((20 ≤ m_ ∧ m_ ≤ 400) ∧ is = 1 ∧ ixF (σ 14) m_ (σ 13 0).toNat = -9 ∧ σ 13 0 = 16 ∧ rv = -4 ∧ uu = σ) ∨ ((20 ≤ m_ ∧ m_ ≤ 400) ∧ is = 1 ∧ ixF (σ 14) m_ (σ 13 0).toNat = -9 ∧ ¬ σ 13 0 = 16 ∧ rv = 1 ∧ (∀ F, F ≠ 13 → F ≠ 14 → uu F = σ F) ∧ uu 13 0 = σ 13 0 + 1 ∧ uu 14 = insM (σ 14) m_ (σ 13 0)) ∨ ((20 ≤ m_ ∧ m_ ≤ 400) ∧ is = 0 ∧ ¬ ixF (σ 14) m_ (σ 13 0).toNat = -9 ∧ rv = 1 ∧ (∀ F, F ≠ 13 → F ≠ 14 → uu F = σ F) ∧ uu 13 0 = σ 13 0 - 1 ∧ uu 14 = delM (σ 14) (ixF (σ 14) m_ (σ 13 0).toNat) (σ 13 0))))) X dX6_mark_37 hret σ (Or.inr (Or.inl ⟨hp6, by omega, rfl, rfl⟩))
    · refine z_iconst (pc' := 29) X dX6_mark_28 rfl ?_
      refine z_goto (tgt := 33) X dX6_mark_29 (by decide) ?_
      refine z_icmp_ne (tgt := 38) (pc' := 36) X dX6_mark_33 (by decide) rfl (by omega) (fun h33 => ?_) (fun h33 => ?_)
      · refine z_iload_n (pc' := 39) X dX6_mark_38 rfl 3 rfl rfl ?_
        refine z_if_eq (tgt := 54) (pc' := 42) X dX6_mark_39 (by decide) rfl (by omega) (fun h39 => ?_) (fun h39 => ?_)
        · refine z_iload_n (pc' := 55) X dX6_mark_54 rfl 3 rfl rfl ?_
          refine z_if_eq (tgt := 66) (pc' := 58) X dX6_mark_55 (by decide) rfl (by omega) (fun h55 => ?_) (fun h55 => by exfalso; omega)
          refine z_aload_n (pc' := 67) X dX6_mark_66 rfl 1 rfl rfl ?_
          refine z_iload_n (pc' := 68) X dX6_mark_67 rfl 0 rfl rfl ?_
          refine z_callVV (pc' := 71) (S := St) (As := [.int (jI (ixF (σ 14) m_ (σ 13 0).toNat))]) (rest := []) X dX6_mark_68 rfl (kX6_losesMark l D E q σ (ixF (σ 14) m_ (σ 13 0).toNat)  (hwf) (by rcases hi with q | q <;> omega)) (cwV 1 X.1.2.2.2.2 gX6_mark_X6_losesMark rfl rfl rfl (by decide +kernel) ⟨Nat.le_of_ble_eq_true rfl, Nat.le_of_ble_eq_true rfl⟩) 0 rfl rfl rfl rfl (Nat.le_of_ble_eq_true rfl) (fun u68 hp68 => ?_)
          obtain ⟨hn68, h1368, h1468⟩ := hp68
          refine z_iconst (pc' := 72) X dX6_mark_71 rfl ?_
          exact z_iret (post := (fun (rv : Int) (uu : St) => ((¬ (20 ≤ m_ ∧ m_ ≤ 400) ∧ rv = -2 ∧ uu = σ) ∨ ((20 ≤ m_ ∧ m_ ≤ 400) ∧ ((is = 1 ∧ ¬ ixF (σ 14) m_ (σ 13 0).toNat = -9) ∨ (is = 0 ∧ ixF (σ 14) m_ (σ 13 0).toNat = -9)) ∧ rv = 0 ∧ uu = σ) ∨ ((20 ≤ m_ ∧ m_ ≤ 400) ∧ is = 1 ∧ ixF (σ 14) m_ (σ 13 0).toNat = -9 ∧ σ 13 0 = 16 ∧ rv = -4 ∧ uu = σ) ∨ ((20 ≤ m_ ∧ m_ ≤ 400) ∧ is = 1 ∧ ixF (σ 14) m_ (σ 13 0).toNat = -9 ∧ ¬ σ 13 0 = 16 ∧ rv = 1 ∧ (∀ F, F ≠ 13 → F ≠ 14 → uu F = σ F) ∧ uu 13 0 = σ 13 0 + 1 ∧ uu 14 = insM (σ 14) m_ (σ 13 0)) ∨ ((20 ≤ m_ ∧ m_ ≤ 400) ∧ is = 0 ∧ ¬ ixF (σ 14) m_ (σ 13 0).toNat = -9 ∧ rv = 1 ∧ (∀ F, F ≠ 13 → F ≠ 14 → uu F = σ F) ∧ uu 13 0 = σ 13 0 - 1 ∧ uu 14 = delM (σ 14) (ixF (σ 14) m_ (σ 13 0).toNat) (σ 13 0))))) X dX6_mark_72 hret u68 (by first | exact Or.inr (Or.inr (Or.inr (Or.inl ⟨hp6, by omega, by omega, by omega, rfl, hn60, h1360, h1460⟩))) | exact Or.inr (Or.inr (Or.inr (Or.inr ⟨hp6, by omega, by omega, rfl, hn68, h1368, h1468⟩))))
        · refine z_aload_n (pc' := 43) X dX6_mark_42 rfl 1 rfl rfl ?_
          refine z_get (pc' := 46) (C := RX6) (ref := "PivotBeatsModel") (T := TX6) (N := 19) (v := .int (jI (σ 13 0))) X dX6_mark_43 rfl hin6 0 rfl rfl 13 (by decide) (by decide +kernel) rfl rfl ?_
          refine z_bipush (pc' := 48) X dX6_mark_46 rfl rfl ?_
          refine z_icmp_ne (tgt := 54) (pc' := 51) X dX6_mark_48 (by decide) rfl (by omega) (fun h48 => ?_) (fun h48 => ?_)
          · refine z_iload_n (pc' := 55) X dX6_mark_54 rfl 3 rfl rfl ?_
            refine z_if_eq (tgt := 66) (pc' := 58) X dX6_mark_55 (by decide) rfl (by omega) (fun h55 => by exfalso; omega) (fun h55 => ?_)
            refine z_aload_n (pc' := 59) X dX6_mark_58 rfl 1 rfl rfl ?_
            refine z_iload_n (pc' := 60) X dX6_mark_59 rfl 2 rfl rfl ?_
            refine z_callVV (pc' := 63) (S := St) (As := [.int (jI m_)]) (rest := []) X dX6_mark_60 rfl (kX6_takesMark l D E q σ m_  (hwf) (by omega)) (cwV 1 X.1.2.2.2.2 gX6_mark_X6_takesMark rfl rfl rfl (by decide +kernel) ⟨Nat.le_of_ble_eq_true rfl, Nat.le_of_ble_eq_true rfl⟩) 0 rfl rfl rfl rfl (Nat.le_of_ble_eq_true rfl) (fun u60 hp60 => ?_)
            obtain ⟨hn60, h1360, h1460⟩ := hp60
            refine z_goto (tgt := 71) X dX6_mark_63 (by decide) ?_
            refine z_iconst (pc' := 72) X dX6_mark_71 rfl ?_
            exact z_iret (post := (fun (rv : Int) (uu : St) => ((¬ (20 ≤ m_ ∧ m_ ≤ 400) ∧ rv = -2 ∧ uu = σ) ∨ ((20 ≤ m_ ∧ m_ ≤ 400) ∧ ((is = 1 ∧ ¬ ixF (σ 14) m_ (σ 13 0).toNat = -9) ∨ (is = 0 ∧ ixF (σ 14) m_ (σ 13 0).toNat = -9)) ∧ rv = 0 ∧ uu = σ) ∨ ((20 ≤ m_ ∧ m_ ≤ 400) ∧ is = 1 ∧ ixF (σ 14) m_ (σ 13 0).toNat = -9 ∧ σ 13 0 = 16 ∧ rv = -4 ∧ uu = σ) ∨ ((20 ≤ m_ ∧ m_ ≤ 400) ∧ is = 1 ∧ ixF (σ 14) m_ (σ 13 0).toNat = -9 ∧ ¬ σ 13 0 = 16 ∧ rv = 1 ∧ (∀ F, F ≠ 13 → F ≠ 14 → uu F = σ F) ∧ uu 13 0 = σ 13 0 + 1 ∧ uu 14 = insM (σ 14) m_ (σ 13 0)) ∨ ((20 ≤ m_ ∧ m_ ≤ 400) ∧ is = 0 ∧ ¬ ixF (σ 14) m_ (σ 13 0).toNat = -9 ∧ rv = 1 ∧ (∀ F, F ≠ 13 → F ≠ 14 → uu F = σ F) ∧ uu 13 0 = σ 13 0 - 1 ∧ uu 14 = delM (σ 14) (ixF (σ 14) m_ (σ 13 0).toNat) (σ 13 0))))) X dX6_mark_72 hret u60 (by first | exact Or.inr (Or.inr (Or.inr (Or.inl ⟨hp6, by omega, by omega, by omega, rfl, hn60, h1360, h1460⟩))) | exact Or.inr (Or.inr (Or.inr (Or.inr ⟨hp6, by omega, by omega, rfl, hn68, h1368, h1468⟩))))
          · refine z_bipush (pc' := 53) X dX6_mark_51 rfl rfl ?_
            exact z_iret (post := (fun (rv : Int) (uu : St) => ((¬ (20 ≤ m_ ∧ m_ ≤ 400) ∧ rv = -2 ∧ uu = σ) ∨ ((20 ≤ m_ ∧ m_ ≤ 400) ∧ ((is = 1 ∧ ¬ ixF (σ 14) m_ (σ 13 0).toNat = -9) ∨ (is = 0 ∧ ixF (σ 14) m_ (σ 13 0).toNat = -9)) ∧ rv = 0 ∧ uu = σ) ∨ ((20 ≤ m_ ∧ m_ ≤ 400) ∧ is = 1 ∧ ixF (σ 14) m_ (σ 13 0).toNat = -9 ∧ σ 13 0 = 16 ∧ rv = -4 ∧ uu = σ) ∨ ((20 ≤ m_ ∧ m_ ≤ 400) ∧ is = 1 ∧ ixF (σ 14) m_ (σ 13 0).toNat = -9 ∧ ¬ σ 13 0 = 16 ∧ rv = 1 ∧ (∀ F, F ≠ 13 → F ≠ 14 → uu F = σ F) ∧ uu 13 0 = σ 13 0 + 1 ∧ uu 14 = insM (σ 14) m_ (σ 13 0)) ∨ ((20 ≤ m_ ∧ m_ ≤ 400) ∧ is = 0 ∧ ¬ ixF (σ 14) m_ (σ 13 0).toNat = -9 ∧ rv = 1 ∧ (∀ F, F ≠ 13 → F ≠ 14 → uu F = σ F) ∧ uu 13 0 = σ 13 0 - 1 ∧ uu 14 = delM (σ 14) (ixF (σ 14) m_ (σ 13 0).toNat) (σ 13 0))))) X dX6_mark_53 hret σ (Or.inr (Or.inr (Or.inl ⟨hp6, by omega, by omega, by omega, rfl, rfl⟩)))
      · refine z_iconst (pc' := 37) X dX6_mark_36 rfl ?_
        exact z_iret (post := (fun (rv : Int) (uu : St) => ((¬ (20 ≤ m_ ∧ m_ ≤ 400) ∧ rv = -2 ∧ uu = σ) ∨ ((20 ≤ m_ ∧ m_ ≤ 400) ∧ ((is = 1 ∧ ¬ ixF (σ 14) m_ (σ 13 0).toNat = -9) ∨ (is = 0 ∧ ixF (σ 14) m_ (σ 13 0).toNat = -9)) ∧ rv = 0 ∧ uu = σ) ∨ ((20 ≤ m_ ∧ m_ ≤ 400) ∧ is = 1 ∧ ixF (σ 14) m_ (σ 13 0).toNat = -9 ∧ σ 13 0 = 16 ∧ rv = -4 ∧ uu = σ) ∨ ((20 ≤ m_ ∧ m_ ≤ 400) ∧ is = 1 ∧ ixF (σ 14) m_ (σ 13 0).toNat = -9 ∧ ¬ σ 13 0 = 16 ∧ rv = 1 ∧ (∀ F, F ≠ 13 → F ≠ 14 → uu F = σ F) ∧ uu 13 0 = σ 13 0 + 1 ∧ uu 14 = insM (σ 14) m_ (σ 13 0)) ∨ ((20 ≤ m_ ∧ m_ ≤ 400) ∧ is = 0 ∧ ¬ ixF (σ 14) m_ (σ 13 0).toNat = -9 ∧ rv = 1 ∧ (∀ F, F ≠ 13 → F ≠ 14 → uu F = σ F) ∧ uu 13 0 = σ 13 0 - 1 ∧ uu 14 = delM (σ 14) (ixF (σ 14) m_ (σ 13 0).toNat) (σ 13 0))))) X dX6_mark_37 hret σ (Or.inr (Or.inl ⟨hp6, by omega, rfl, rfl⟩))
  · refine z_if_ne (tgt := 15) (pc' := 12) X dX6_mark_9 (by decide) rfl (by omega) (fun h => absurd h (by decide)) (fun _ => ?_)
    refine z_bipush (pc' := 14) X dX6_mark_12 rfl rfl ?_
    exact z_iret (post := (fun (rv : Int) (uu : St) => ((¬ (20 ≤ m_ ∧ m_ ≤ 400) ∧ rv = -2 ∧ uu = σ) ∨ ((20 ≤ m_ ∧ m_ ≤ 400) ∧ ((is = 1 ∧ ¬ ixF (σ 14) m_ (σ 13 0).toNat = -9) ∨ (is = 0 ∧ ixF (σ 14) m_ (σ 13 0).toNat = -9)) ∧ rv = 0 ∧ uu = σ) ∨ ((20 ≤ m_ ∧ m_ ≤ 400) ∧ is = 1 ∧ ixF (σ 14) m_ (σ 13 0).toNat = -9 ∧ σ 13 0 = 16 ∧ rv = -4 ∧ uu = σ) ∨ ((20 ≤ m_ ∧ m_ ≤ 400) ∧ is = 1 ∧ ixF (σ 14) m_ (σ 13 0).toNat = -9 ∧ ¬ σ 13 0 = 16 ∧ rv = 1 ∧ (∀ F, F ≠ 13 → F ≠ 14 → uu F = σ F) ∧ uu 13 0 = σ 13 0 + 1 ∧ uu 14 = insM (σ 14) m_ (σ 13 0)) ∨ ((20 ≤ m_ ∧ m_ ≤ 400) ∧ is = 0 ∧ ¬ ixF (σ 14) m_ (σ 13 0).toNat = -9 ∧ rv = 1 ∧ (∀ F, F ≠ 13 → F ≠ 14 → uu F = σ F) ∧ uu 13 0 = σ 13 0 - 1 ∧ uu 14 = delM (σ 14) (ixF (σ 14) m_ (σ 13 0).toNat) (σ 13 0))))) X dX6_mark_14 hret σ (Or.inl ⟨hp6, rfl, rfl⟩)
set_option maxHeartbeats 4000000 in
set_option maxRecDepth 100000 in
theorem kX6_markAt (l : Launch) (D : va_G) (E : Nat → Nat) (q : Nat → Nat) (σ : St) (k : Int) (hwf : WfM σ) (hr : (-2147483648 ≤ k ∧ k < 2147483648)) : CtI l D E yX6_markAt wsX6_markAt ({ frames := 1, cells := 0, slots := 0, locals := 22 } : Room) [.ref (q 0), .int (jI k)] (MW E q σ) (MW E q) (fun (rv : Int) (uu : St) => σ = uu ∧ rv = (if 0 ≤ k ∧ k ≤ 15 then (if k < σ 13 0 then σ 14 k else -9) else -2)) := by
  refine mk_I (cc := cX6_markAt) (maxL := 2) (ret := some .int) (by decide) rfl (Nat.le_of_ble_eq_true rfl) ?_
  intro p e s m args below meth c A X hret
  have hin6 : ∀ x ∈ u_ws RX6 TX6 19, x ∈ wsX6_markAt := fun _ h => List.mem_cons_of_mem _ (List.mem_append_right _ h)
  refine z_lv (lv' := [(0, .ref (q 0)), (1, .int (jI k))]) [0, 1] rfl ?_
  obtain ⟨n0, n3, n4, n13⟩ := hwf.n
  refine z_iload_n (pc' := 1) X dX6_markAt_0 rfl 1 rfl rfl ?_
  refine z_iconst (pc' := 2) X dX6_markAt_1 rfl ?_
  refine z_bipush (pc' := 4) X dX6_markAt_2 rfl rfl ?_
  refine z_callPI (pc' := 7) (S := Unit) (As := [.int (jI k), .int (jI 0), .int (jI 15)]) (rest := []) X dX6_markAt_4 rfl (kX6_isIn l D E k 0 15  (by omega)) (va_cwS 3 X.1.2.2.2.2 gX6_markAt_X6_isIn rfl rfl rfl (by decide +kernel) ⟨Nat.le_of_ble_eq_true rfl, Nat.le_of_ble_eq_true rfl⟩) rfl rfl (Nat.le_of_ble_eq_true rfl) (fun r4 u4 hp4 => ?_)
  skip
  rcases hp4 with ⟨rfl, hp4⟩ | ⟨rfl, hp4⟩
  · refine z_if_ne (tgt := 13) (pc' := 10) X dX6_markAt_7 (by decide) rfl (by omega) (fun _ => ?_) (fun h => absurd h (by decide))
    refine z_iload_n (pc' := 14) X dX6_markAt_13 rfl 1 rfl rfl ?_
    refine z_aload_n (pc' := 15) X dX6_markAt_14 rfl 0 rfl rfl ?_
    refine z_get (pc' := 18) (C := RX6) (ref := "PivotBeatsModel") (T := TX6) (N := 19) (v := .int (jI (σ 13 0))) X dX6_markAt_15 rfl hin6 0 rfl rfl 13 (by decide) (by decide +kernel) rfl rfl ?_
    refine z_icmp_ge (tgt := 30) (pc' := 21) X dX6_markAt_18 (by decide) rfl (by omega) (fun h18 => ?_) (fun h18 => ?_)
    · refine z_bipush (pc' := 32) X dX6_markAt_30 rfl rfl ?_
      exact z_iret (post := (fun (rv : Int) (uu : St) => σ = uu ∧ rv = (if 0 ≤ k ∧ k ≤ 15 then (if k < σ 13 0 then σ 14 k else -9) else -2))) X dX6_markAt_32 hret σ (⟨rfl, by rw [if_pos hp4]; first | (rw [if_pos h18]; done) | (rw [if_neg (by omega)]; done)⟩)
    · refine z_aload_n (pc' := 22) X dX6_markAt_21 rfl 0 rfl rfl ?_
      refine z_get (pc' := 25) (C := RX6) (ref := "PivotBeatsModel") (T := TX6) (N := 19) (v := .ref (q 14)) X dX6_markAt_22 rfl hin6 0 rfl rfl 14 (by decide) (by decide +kernel) rfl rfl ?_
      refine z_iload_n (pc' := 26) X dX6_markAt_25 rfl 1 rfl rfl ?_
      refine z_iald (pc' := 27) (f := σ 14) (n := 16) X dX6_markAt_26 rfl 10 rfl (by decide) (by omega) ?_
      refine z_goto (tgt := 32) X dX6_markAt_27 (by decide) ?_
      exact z_iret (post := (fun (rv : Int) (uu : St) => σ = uu ∧ rv = (if 0 ≤ k ∧ k ≤ 15 then (if k < σ 13 0 then σ 14 k else -9) else -2))) X dX6_markAt_32 hret σ (⟨rfl, by rw [if_pos hp4]; first | (rw [if_pos h18]; done) | (rw [if_neg (by omega)]; done)⟩)
  · refine z_if_ne (tgt := 13) (pc' := 10) X dX6_markAt_7 (by decide) rfl (by omega) (fun h => absurd h (by decide)) (fun _ => ?_)
    refine z_bipush (pc' := 12) X dX6_markAt_10 rfl rfl ?_
    exact z_iret (post := (fun (rv : Int) (uu : St) => σ = uu ∧ rv = (if 0 ≤ k ∧ k ≤ 15 then (if k < σ 13 0 then σ 14 k else -9) else -2))) X dX6_markAt_12 hret σ (⟨rfl, by rw [if_neg hp4]⟩)
set_option maxHeartbeats 4000000 in
set_option maxRecDepth 100000 in
theorem kX6_pin (l : Launch) (D : va_G) (E : Nat → Nat) (q : Nat → Nat) (σ : St) (s_ m_ : Int) (hwf : WfM σ) (hr : (-2147483648 ≤ s_ ∧ s_ < 2147483648) ∧ (-2147483648 ≤ m_ ∧ m_ < 2147483648)) : CtI l D E yX6_pin wsX6_pin ({ frames := 2, cells := 0, slots := 0, locals := 43 } : Room) [.ref (q 0), .int (jI s_), .int (jI m_)] (MW E q σ) (MW E q) (fun (rv : Int) (uu : St) => ((¬ (0 ≤ s_ ∧ s_ < σ 0 0) ∧ rv = -1 ∧ uu = σ) ∨ ((0 ≤ s_ ∧ s_ < σ 0 0) ∧ ¬ (m_ = -9 ∨ (20 ≤ m_ ∧ m_ ≤ 400)) ∧ rv = -2 ∧ uu = σ) ∨ ((0 ≤ s_ ∧ s_ < σ 0 0) ∧ (m_ = -9 ∨ (20 ≤ m_ ∧ m_ ≤ 400)) ∧ rv = σ 2 s_ ∧ uu = up σ 2 s_ m_))) := by
  refine mk_I (cc := cX6_pin) (maxL := 4) (ret := some .int) (by decide) rfl (Nat.le_of_ble_eq_true rfl) ?_
  intro p e s m args below meth c A X hret
  have hin6 : ∀ x ∈ u_ws RX6 TX6 19, x ∈ wsX6_pin := fun _ h => List.mem_cons_of_mem _ (List.mem_append_right _ h)
  refine z_lv (lv' := [(0, .ref (q 0)), (1, .int (jI s_)), (2, .int (jI m_))]) [0, 1, 2] rfl ?_
  obtain ⟨n0, n3, n4, n13⟩ := hwf.n
  refine z_aload_n (pc' := 1) X dX6_pin_0 rfl 0 rfl rfl ?_
  refine z_iload_n (pc' := 2) X dX6_pin_1 rfl 1 rfl rfl ?_
  refine z_callVI (pc' := 5) (S := St) (As := [.int (jI s_)]) (rest := []) X dX6_pin_2 rfl (kX6_isSection l D E q σ s_  (hwf) (by omega)) (cwV 1 X.1.2.2.2.2 gX6_pin_X6_isSection rfl rfl rfl (by decide +kernel) ⟨Nat.le_of_ble_eq_true rfl, Nat.le_of_ble_eq_true rfl⟩) 0 rfl rfl rfl rfl (Nat.le_of_ble_eq_true rfl) (fun r2 u2 hp2 => ?_)
  obtain ⟨rfl, hp2⟩ := hp2
  rcases hp2 with ⟨rfl, hp2⟩ | ⟨rfl, hp2⟩
  · refine z_if_ne (tgt := 10) (pc' := 8) X dX6_pin_5 (by decide) rfl (by omega) (fun _ => ?_) (fun h => absurd h (by decide))
    refine z_iload_n (pc' := 11) X dX6_pin_10 rfl 2 rfl rfl ?_
    refine z_bipush (pc' := 13) X dX6_pin_11 rfl rfl ?_
    refine z_icmp_eq (tgt := 31) (pc' := 16) X dX6_pin_13 (by decide) rfl (by omega) (fun h13 => ?_) (fun h13 => ?_)
    · refine z_aload_n (pc' := 32) X dX6_pin_31 rfl 0 rfl rfl ?_
      refine z_get (pc' := 35) (C := RX6) (ref := "PivotBeatsModel") (T := TX6) (N := 19) (v := .ref (q 2)) X dX6_pin_32 rfl hin6 0 rfl rfl 2 (by decide) (by decide +kernel) rfl rfl ?_
      refine z_iload_n (pc' := 36) X dX6_pin_35 rfl 1 rfl rfl ?_
      refine z_iald (pc' := 37) (f := σ 2) (n := 7) X dX6_pin_36 rfl 2 rfl (by decide) (by omega) ?_
      refine z_istore_n (pc' := 38) (lv' := [(3, .int (jI (σ 2 s_))), (0, .ref (q 0)), (1, .int (jI s_)), (2, .int (jI m_))]) X dX6_pin_37 rfl rfl (by decide) rfl ?_
      refine z_aload_n (pc' := 39) X dX6_pin_38 rfl 1 rfl rfl ?_
      refine z_get (pc' := 42) (C := RX6) (ref := "PivotBeatsModel") (T := TX6) (N := 19) (v := .ref (q 2)) X dX6_pin_39 rfl hin6 0 rfl rfl 2 (by decide) (by decide +kernel) rfl rfl ?_
      refine z_iload_n (pc' := 43) X dX6_pin_42 rfl 2 rfl rfl ?_
      refine z_iload_n (pc' := 44) X dX6_pin_43 rfl 3 rfl rfl ?_
      refine z_iast (pc' := 45) (f := σ 2) (n := 7) (w' := MW E q (up σ 2 s_ m_)) X dX6_pin_44 rfl 2 rfl (by decide) (by omega) rfl ?_
      refine z_iload_n (pc' := 46) X dX6_pin_45 rfl 0 rfl rfl ?_
      exact z_iret (post := (fun (rv : Int) (uu : St) => ((¬ (0 ≤ s_ ∧ s_ < σ 0 0) ∧ rv = -1 ∧ uu = σ) ∨ ((0 ≤ s_ ∧ s_ < σ 0 0) ∧ ¬ (m_ = -9 ∨ (20 ≤ m_ ∧ m_ ≤ 400)) ∧ rv = -2 ∧ uu = σ) ∨ ((0 ≤ s_ ∧ s_ < σ 0 0) ∧ (m_ = -9 ∨ (20 ≤ m_ ∧ m_ ≤ 400)) ∧ rv = σ 2 s_ ∧ uu = up σ 2 s_ m_)))) X dX6_pin_46 hret (up σ 2 s_ m_) (Or.inr (Or.inr ⟨hp2, by omega, rfl, rfl⟩))
    · refine z_iload_n (pc' := 17) X dX6_pin_16 rfl 2 rfl rfl ?_
      refine z_bipush (pc' := 19) X dX6_pin_17 rfl rfl ?_
      refine z_sipush (pc' := 22) X dX6_pin_19 rfl rfl ?_
      refine z_callPI (pc' := 25) (S := Unit) (As := [.int (jI m_), .int (jI 20), .int (jI 400)]) (rest := []) X dX6_pin_22 rfl (kX6_isIn l D E m_ 20 400  (by omega)) (va_cwS 3 X.1.2.2.2.2 gX6_pin_X6_isIn rfl rfl rfl (by decide +kernel) ⟨Nat.le_of_ble_eq_true rfl, Nat.le_of_ble_eq_true rfl⟩) rfl rfl (Nat.le_of_ble_eq_true rfl) (fun r22 u22 hp22 => ?_)
      skip
      rcases hp22 with ⟨rfl, hp22⟩ | ⟨rfl, hp22⟩
      · refine z_if_ne (tgt := 31) (pc' := 28) X dX6_pin_25 (by decide) rfl (by omega) (fun _ => ?_) (fun h => absurd h (by decide))
        refine z_aload_n (pc' := 32) X dX6_pin_31 rfl 0 rfl rfl ?_
        refine z_get (pc' := 35) (C := RX6) (ref := "PivotBeatsModel") (T := TX6) (N := 19) (v := .ref (q 2)) X dX6_pin_32 rfl hin6 0 rfl rfl 2 (by decide) (by decide +kernel) rfl rfl ?_
        refine z_iload_n (pc' := 36) X dX6_pin_35 rfl 1 rfl rfl ?_
        refine z_iald (pc' := 37) (f := σ 2) (n := 7) X dX6_pin_36 rfl 2 rfl (by decide) (by omega) ?_
        refine z_istore_n (pc' := 38) (lv' := [(3, .int (jI (σ 2 s_))), (0, .ref (q 0)), (1, .int (jI s_)), (2, .int (jI m_))]) X dX6_pin_37 rfl rfl (by decide) rfl ?_
        refine z_aload_n (pc' := 39) X dX6_pin_38 rfl 1 rfl rfl ?_
        refine z_get (pc' := 42) (C := RX6) (ref := "PivotBeatsModel") (T := TX6) (N := 19) (v := .ref (q 2)) X dX6_pin_39 rfl hin6 0 rfl rfl 2 (by decide) (by decide +kernel) rfl rfl ?_
        refine z_iload_n (pc' := 43) X dX6_pin_42 rfl 2 rfl rfl ?_
        refine z_iload_n (pc' := 44) X dX6_pin_43 rfl 3 rfl rfl ?_
        refine z_iast (pc' := 45) (f := σ 2) (n := 7) (w' := MW E q (up σ 2 s_ m_)) X dX6_pin_44 rfl 2 rfl (by decide) (by omega) rfl ?_
        refine z_iload_n (pc' := 46) X dX6_pin_45 rfl 0 rfl rfl ?_
        exact z_iret (post := (fun (rv : Int) (uu : St) => ((¬ (0 ≤ s_ ∧ s_ < σ 0 0) ∧ rv = -1 ∧ uu = σ) ∨ ((0 ≤ s_ ∧ s_ < σ 0 0) ∧ ¬ (m_ = -9 ∨ (20 ≤ m_ ∧ m_ ≤ 400)) ∧ rv = -2 ∧ uu = σ) ∨ ((0 ≤ s_ ∧ s_ < σ 0 0) ∧ (m_ = -9 ∨ (20 ≤ m_ ∧ m_ ≤ 400)) ∧ rv = σ 2 s_ ∧ uu = up σ 2 s_ m_)))) X dX6_pin_46 hret (up σ 2 s_ m_) (Or.inr (Or.inr ⟨hp2, by omega, rfl, rfl⟩))
      · refine z_if_ne (tgt := 31) (pc' := 28) X dX6_pin_25 (by decide) rfl (by omega) (fun h => absurd h (by decide)) (fun _ => ?_)
        refine z_bipush (pc' := 30) X dX6_pin_28 rfl rfl ?_
        exact z_iret (post := (fun (rv : Int) (uu : St) => ((¬ (0 ≤ s_ ∧ s_ < σ 0 0) ∧ rv = -1 ∧ uu = σ) ∨ ((0 ≤ s_ ∧ s_ < σ 0 0) ∧ ¬ (m_ = -9 ∨ (20 ≤ m_ ∧ m_ ≤ 400)) ∧ rv = -2 ∧ uu = σ) ∨ ((0 ≤ s_ ∧ s_ < σ 0 0) ∧ (m_ = -9 ∨ (20 ≤ m_ ∧ m_ ≤ 400)) ∧ rv = σ 2 s_ ∧ uu = up σ 2 s_ m_)))) X dX6_pin_30 hret σ (Or.inr (Or.inl ⟨hp2, by omega, rfl, rfl⟩))
  · refine z_if_ne (tgt := 10) (pc' := 8) X dX6_pin_5 (by decide) rfl (by omega) (fun h => absurd h (by decide)) (fun _ => ?_)
    refine z_iconst (pc' := 9) X dX6_pin_8 rfl ?_
    exact z_iret (post := (fun (rv : Int) (uu : St) => ((¬ (0 ≤ s_ ∧ s_ < σ 0 0) ∧ rv = -1 ∧ uu = σ) ∨ ((0 ≤ s_ ∧ s_ < σ 0 0) ∧ ¬ (m_ = -9 ∨ (20 ≤ m_ ∧ m_ ≤ 400)) ∧ rv = -2 ∧ uu = σ) ∨ ((0 ≤ s_ ∧ s_ < σ 0 0) ∧ (m_ = -9 ∨ (20 ≤ m_ ∧ m_ ≤ 400)) ∧ rv = σ 2 s_ ∧ uu = up σ 2 s_ m_)))) X dX6_pin_9 hret σ (Or.inl ⟨hp2, rfl, rfl⟩)
set_option maxHeartbeats 4000000 in
set_option maxRecDepth 100000 in
theorem kX6_nearestTo (l : Launch) (D : va_G) (E : Nat → Nat) (q : Nat → Nat) (σ : St) (s_ : Int) (hwf : WfM σ) (hs : 0 ≤ s_ ∧ s_ < 7) (hb : (0 ≤ σ 7 s_ ∧ σ 7 s_ ≤ 68719476736) ∧ (¬ σ 7 s_ = 0 → (1 ≤ σ 8 s_ ∧ σ 8 s_ ≤ 68719476736))) : CtI l D E yX6_nearestTo wsX6_nearestTo ({ frames := 1, cells := 0, slots := 0, locals := 23 } : Room) [.ref (q 0), .int (jI s_)] (MW E q σ) (MW E q) (fun (rv : Int) (uu : St) => σ = uu ∧ rv = (if σ 7 s_ = 0 then -9 else nrI (fun k => ((σ 14 k * σ 8 s_ - σ 3 0 * σ 7 s_).natAbs : Int)) (σ 13 0).toNat)) := by
  refine mk_I (cc := cX6_nearestTo) (maxL := 8) (ret := some .int) (by decide) rfl (Nat.le_of_ble_eq_true rfl) ?_
  intro p e s m args below meth c A X hret
  have hin6 : ∀ x ∈ u_ws RX6 TX6 19, x ∈ wsX6_nearestTo := fun _ h => List.mem_cons_of_mem _ (List.mem_append_right _ h)
  refine z_lv (lv' := [(0, .ref (q 0)), (1, .int (jI s_))]) [0, 1] rfl ?_
  obtain ⟨n0, n3, n4, n13⟩ := hwf.n
  have hmk := hwf.2.2.2.2.2.2.2.1
  have hpr := mul_bd (a := σ 3 0) (b := σ 7 s_) (A := 400) (B := 68719476736) (by omega) hb.1
  refine z_bipush (pc' := 2) X dX6_nearestTo_0 rfl rfl ?_
  refine z_istore_n (pc' := 3) (lv' := [(2, .int (jI (-9))), (0, .ref (q 0)), (1, .int (jI s_))]) X dX6_nearestTo_2 rfl rfl (by decide) rfl ?_
  refine z_lconst (pc' := 4) (x := 0) X dX6_nearestTo_3 rfl rfl ?_
  refine z_lstore_n (pc' := 5) (lv' := [(3, .long (jL 0)), (2, .int (jI (-9))), (0, .ref (q 0)), (1, .int (jI s_))]) X dX6_nearestTo_4 rfl rfl (by decide) rfl ?_
  refine z_iconst (pc' := 6) X dX6_nearestTo_5 rfl ?_
  refine z_istore (pc' := 8) (lv' := [(5, .int (jI 0)), (3, .long (jL 0)), (2, .int (jI (-9))), (0, .ref (q 0)), (1, .int (jI s_))]) X dX6_nearestTo_6 rfl (by decide) rfl ?_
  have lp8 : ∀ (nF : Nat) (k : Int) (least : Int) (best : Int) , ((0 ≤ k ∧ k ≤ σ 13 0) ∧ (σ 7 s_ = 0 → k = 0) ∧ best = nrI (fun k => ((σ 14 k * σ 8 s_ - σ 3 0 * σ 7 s_).natAbs : Int)) k.toNat ∧ (best = -9 ∨ least = (fun k => ((σ 14 k * σ 8 s_ - σ 3 0 * σ 7 s_).natAbs : Int)) best) ∧ (0 ≤ least ∧ least ≤ 27487790694400 + 27487790694400)) → ((16 - k).toNat : Nat) < nF → J p l e (headSpec wsX6_nearestTo ({ frames := 1, cells := 0, slots := 0, locals := 23 } : Room)).room s m args below meth c D A 8 (MQ below (va_Qi (fun r u => ∃ x, r = jI x ∧ (fun (rv : Int) (uu : St) => σ = uu ∧ rv = (if σ 7 s_ = 0 then -9 else nrI (fun k => ((σ 14 k * σ 8 s_ - σ 3 0 * σ 7 s_).natAbs : Int)) (σ 13 0).toNat)) x u) (Bw D (MW E q) A) A) args s 0 0 A) 8 [(5, .int (jI k)), (3, .long (jL least)), (2, .int (jI best)), (0, .ref (q 0)), (1, .int (jI s_))] [] (MW E q σ) := by
    intro nF
    induction nF with
    | zero => intro k least best  hI hn; exact absurd hn (Nat.not_lt_zero _)
    | succ nF ih8 =>
      intro k least best  hI hn
      obtain ⟨h1, h2, h3, h4, h5⟩ := hI
      have hr := nrI_rng (fun k => ((σ 14 k * σ 8 s_ - σ 3 0 * σ 7 s_).natAbs : Int)) k.toNat
      refine z_iload (pc' := 10) X dX6_nearestTo_8 rfl 0 rfl ?_
      refine z_aload_n (pc' := 11) X dX6_nearestTo_10 rfl 3 rfl rfl ?_
      refine z_get (pc' := 14) (C := RX6) (ref := "PivotBeatsModel") (T := TX6) (N := 19) (v := .int (jI (σ 13 0))) X dX6_nearestTo_11 rfl hin6 0 rfl rfl 13 (by decide) (by decide +kernel) rfl rfl ?_
      refine z_icmp_ge (tgt := 85) (pc' := 17) X dX6_nearestTo_14 (by decide) rfl (by omega) (fun h14 => ?_) (fun h14 => ?_)
      · refine z_iload_n (pc' := 86) X dX6_nearestTo_85 rfl 2 rfl rfl ?_
        exact z_iret (post := (fun (rv : Int) (uu : St) => σ = uu ∧ rv = (if σ 7 s_ = 0 then -9 else nrI (fun k => ((σ 14 k * σ 8 s_ - σ 3 0 * σ 7 s_).natAbs : Int)) (σ 13 0).toNat))) X dX6_nearestTo_86 hret σ (⟨rfl, by first | (rw [if_pos (by omega), h3, show k = 0 by omega]; done) | (rw [if_pos (by omega), h3, h2 (by omega)]; rfl) | (rw [if_neg (by omega), h3, show k = σ 13 0 by omega]; done) | (by_cases q : σ 7 s_ = 0; rw [if_pos q, h3, h2 q]; rfl; rw [if_neg q, h3, show k = σ 13 0 by omega])⟩)
      · refine z_aload_n (pc' := 18) X dX6_nearestTo_17 rfl 3 rfl rfl ?_
        refine z_get (pc' := 21) (C := RX6) (ref := "PivotBeatsModel") (T := TX6) (N := 19) (v := .ref (q 7)) X dX6_nearestTo_18 rfl hin6 0 rfl rfl 7 (by decide) (by decide +kernel) rfl rfl ?_
        refine z_iload_n (pc' := 22) X dX6_nearestTo_21 rfl 4 rfl rfl ?_
        refine z_lald (pc' := 23) (f := σ 7) (n := 7) X dX6_nearestTo_22 rfl 5 rfl (by decide) (by omega) ?_
        refine z_lconst (pc' := 24) (x := 0) X dX6_nearestTo_23 rfl rfl ?_
        refine z_lcmp_le (tgt := 85) (pc' := 28) X dX6_nearestTo_24 (pc1 := 25) rfl dX6_nearestTo_25 (by decide) rfl (by omega) (fun h24 => ?_) (fun h24 => ?_)
        · refine z_iload_n (pc' := 86) X dX6_nearestTo_85 rfl 2 rfl rfl ?_
          exact z_iret (post := (fun (rv : Int) (uu : St) => σ = uu ∧ rv = (if σ 7 s_ = 0 then -9 else nrI (fun k => ((σ 14 k * σ 8 s_ - σ 3 0 * σ 7 s_).natAbs : Int)) (σ 13 0).toNat))) X dX6_nearestTo_86 hret σ (⟨rfl, by first | (rw [if_pos (by omega), h3, show k = 0 by omega]; done) | (rw [if_pos (by omega), h3, h2 (by omega)]; rfl) | (rw [if_neg (by omega), h3, show k = σ 13 0 by omega]; done) | (by_cases q : σ 7 s_ = 0; rw [if_pos q, h3, h2 q]; rfl; rw [if_neg q, h3, show k = σ 13 0 by omega])⟩)
        · have hk := hmk k (by omega) (by omega)
          have hpk := mul_bd (a := σ 14 k) (b := σ 8 s_) (A := 400) (B := 68719476736) (by omega) (by omega)
          refine z_aload_n (pc' := 29) X dX6_nearestTo_28 rfl 3 rfl rfl ?_
          refine z_get (pc' := 32) (C := RX6) (ref := "PivotBeatsModel") (T := TX6) (N := 19) (v := .ref (q 14)) X dX6_nearestTo_29 rfl hin6 0 rfl rfl 14 (by decide) (by decide +kernel) rfl rfl ?_
          refine z_iload (pc' := 34) X dX6_nearestTo_32 rfl 0 rfl ?_
          refine z_iald (pc' := 35) (f := σ 14) (n := 16) X dX6_nearestTo_34 rfl 10 rfl (by decide) (by omega) ?_
          refine z_i2l (pc' := 36) X dX6_nearestTo_35 rfl (by omega) ?_
          refine z_aload_n (pc' := 37) X dX6_nearestTo_36 rfl 3 rfl rfl ?_
          refine z_get (pc' := 40) (C := RX6) (ref := "PivotBeatsModel") (T := TX6) (N := 19) (v := .ref (q 8)) X dX6_nearestTo_37 rfl hin6 0 rfl rfl 8 (by decide) (by decide +kernel) rfl rfl ?_
          refine z_iload_n (pc' := 41) X dX6_nearestTo_40 rfl 4 rfl rfl ?_
          refine z_lald (pc' := 42) (f := σ 8) (n := 7) X dX6_nearestTo_41 rfl 6 rfl (by decide) (by omega) ?_
          refine z_lmul (pc' := 43) X dX6_nearestTo_42 rfl ?_
          refine z_aload_n (pc' := 44) X dX6_nearestTo_43 rfl 3 rfl rfl ?_
          refine z_get (pc' := 47) (C := RX6) (ref := "PivotBeatsModel") (T := TX6) (N := 19) (v := .int (jI (σ 3 0))) X dX6_nearestTo_44 rfl hin6 0 rfl rfl 3 (by decide) (by decide +kernel) rfl rfl ?_
          refine z_i2l (pc' := 48) X dX6_nearestTo_47 rfl (by omega) ?_
          refine z_aload_n (pc' := 49) X dX6_nearestTo_48 rfl 3 rfl rfl ?_
          refine z_get (pc' := 52) (C := RX6) (ref := "PivotBeatsModel") (T := TX6) (N := 19) (v := .ref (q 7)) X dX6_nearestTo_49 rfl hin6 0 rfl rfl 7 (by decide) (by decide +kernel) rfl rfl ?_
          refine z_iload_n (pc' := 53) X dX6_nearestTo_52 rfl 4 rfl rfl ?_
          refine z_lald (pc' := 54) (f := σ 7) (n := 7) X dX6_nearestTo_53 rfl 5 rfl (by decide) (by omega) ?_
          refine z_lmul (pc' := 55) X dX6_nearestTo_54 rfl ?_
          refine z_callPL (pc' := 58) (S := Unit) (As := [.long (jL ((σ 14 k) * (σ 8 s_))), .long (jL ((σ 3 0) * (σ 7 s_)))]) (rest := []) X dX6_nearestTo_55 rfl (kX6_apart l D E ((σ 14 k) * (σ 8 s_)) ((σ 3 0) * (σ 7 s_))  (by omega)) (va_cwS 2 X.1.2.2.2.2 gX6_nearestTo_X6_apart rfl rfl rfl (by decide +kernel) ⟨Nat.le_of_ble_eq_true rfl, Nat.le_of_ble_eq_true rfl⟩) rfl rfl (Nat.le_of_ble_eq_true rfl) (fun r55 u55 hp55 => ?_)
          replace hp55 := hp55.symm; subst hp55
          refine z_lstore (pc' := 60) (lv' := [(6, .long (jL ((((σ 14 k) * (σ 8 s_)) - ((σ 3 0) * (σ 7 s_))).natAbs : Int))), (5, .int (jI k)), (3, .long (jL least)), (2, .int (jI best)), (0, .ref (q 0)), (1, .int (jI s_))]) X dX6_nearestTo_58 rfl (by decide) rfl ?_
          refine z_iload_n (pc' := 61) X dX6_nearestTo_60 rfl 3 rfl rfl ?_
          refine z_bipush (pc' := 63) X dX6_nearestTo_61 rfl rfl ?_
          refine z_icmp_eq (tgt := 73) (pc' := 66) X dX6_nearestTo_63 (by decide) rfl (by omega) (fun h63 => ?_) (fun h63 => ?_)
          · refine z_iload (pc' := 75) X dX6_nearestTo_73 rfl 1 rfl ?_
            refine z_istore_n (pc' := 76) (lv' := [(2, .int (jI k)), (6, .long (jL ((((σ 14 k) * (σ 8 s_)) - ((σ 3 0) * (σ 7 s_))).natAbs : Int))), (5, .int (jI k)), (3, .long (jL least)), (0, .ref (q 0)), (1, .int (jI s_))]) X dX6_nearestTo_75 rfl rfl (by decide) rfl ?_
            refine z_lload (pc' := 78) X dX6_nearestTo_76 rfl 1 rfl ?_
            refine z_lstore_n (pc' := 79) (lv' := [(3, .long (jL ((((σ 14 k) * (σ 8 s_)) - ((σ 3 0) * (σ 7 s_))).natAbs : Int))), (2, .int (jI k)), (6, .long (jL ((((σ 14 k) * (σ 8 s_)) - ((σ 3 0) * (σ 7 s_))).natAbs : Int))), (5, .int (jI k)), (0, .ref (q 0)), (1, .int (jI s_))]) X dX6_nearestTo_78 rfl rfl (by decide) rfl ?_
            refine z_iinc (pc' := 82) (lv' := [(5, .int (jI (k + 1))), (3, .long (jL ((((σ 14 k) * (σ 8 s_)) - ((σ 3 0) * (σ 7 s_))).natAbs : Int))), (2, .int (jI k)), (6, .long (jL ((((σ 14 k) * (σ 8 s_)) - ((σ 3 0) * (σ 7 s_))).natAbs : Int))), (0, .ref (q 0)), (1, .int (jI s_))]) X dX6_nearestTo_79 rfl 3 rfl (by decide) rfl ?_
            refine z_goto (tgt := 8) X dX6_nearestTo_82 (by decide) ?_
            refine z_lv (lv' := [(5, .int (jI (k + 1))), (3, .long (jL ((((σ 14 k) * (σ 8 s_)) - ((σ 3 0) * (σ 7 s_))).natAbs : Int))), (2, .int (jI k)), (0, .ref (q 0)), (1, .int (jI s_))]) [0, 1, 2, 4, 5] rfl ?_
            exact ih8 (k + 1) ((((σ 14 k) * (σ 8 s_)) - ((σ 3 0) * (σ 7 s_))).natAbs : Int) k  (by first | exact ⟨by omega, fun q => absurd q (by omega), by rw [nrI_succ _ h1.1, ← h3, if_pos h63], Or.inr rfl, by omega⟩ | exact ⟨by omega, fun q => absurd q (by omega), by rw [nrI_succ _ h1.1, ← h3, if_neg h63, if_pos (by have e := h4.resolve_left h63; dsimp only at e ⊢; omega)], Or.inr rfl, by omega⟩ | exact ⟨by omega, fun q => absurd q (by omega), by rw [nrI_succ _ h1.1, ← h3, if_neg h63, if_neg (by have e := h4.resolve_left h63; dsimp only at e ⊢; omega)], h4, by omega⟩) (by omega)
          · refine z_lload (pc' := 68) X dX6_nearestTo_66 rfl 0 rfl ?_
            refine z_lload_n (pc' := 69) X dX6_nearestTo_68 rfl 2 rfl rfl ?_
            refine z_lcmp_ge (tgt := 79) (pc' := 73) X dX6_nearestTo_69 (pc1 := 70) rfl dX6_nearestTo_70 (by decide) rfl (by omega) (fun h69 => ?_) (fun h69 => ?_)
            · refine z_iinc (pc' := 82) (lv' := [(5, .int (jI (k + 1))), (6, .long (jL ((((σ 14 k) * (σ 8 s_)) - ((σ 3 0) * (σ 7 s_))).natAbs : Int))), (3, .long (jL least)), (2, .int (jI best)), (0, .ref (q 0)), (1, .int (jI s_))]) X dX6_nearestTo_79 rfl 1 rfl (by decide) rfl ?_
              refine z_goto (tgt := 8) X dX6_nearestTo_82 (by decide) ?_
              refine z_lv (lv' := [(5, .int (jI (k + 1))), (3, .long (jL least)), (2, .int (jI best)), (0, .ref (q 0)), (1, .int (jI s_))]) [0, 2, 3, 4, 5] rfl ?_
              exact ih8 (k + 1) least best  (by first | exact ⟨by omega, fun q => absurd q (by omega), by rw [nrI_succ _ h1.1, ← h3, if_pos h63], Or.inr rfl, by omega⟩ | exact ⟨by omega, fun q => absurd q (by omega), by rw [nrI_succ _ h1.1, ← h3, if_neg h63, if_pos (by have e := h4.resolve_left h63; dsimp only at e ⊢; omega)], Or.inr rfl, by omega⟩ | exact ⟨by omega, fun q => absurd q (by omega), by rw [nrI_succ _ h1.1, ← h3, if_neg h63, if_neg (by have e := h4.resolve_left h63; dsimp only at e ⊢; omega)], h4, by omega⟩) (by omega)
            · refine z_iload (pc' := 75) X dX6_nearestTo_73 rfl 1 rfl ?_
              refine z_istore_n (pc' := 76) (lv' := [(2, .int (jI k)), (6, .long (jL ((((σ 14 k) * (σ 8 s_)) - ((σ 3 0) * (σ 7 s_))).natAbs : Int))), (5, .int (jI k)), (3, .long (jL least)), (0, .ref (q 0)), (1, .int (jI s_))]) X dX6_nearestTo_75 rfl rfl (by decide) rfl ?_
              refine z_lload (pc' := 78) X dX6_nearestTo_76 rfl 1 rfl ?_
              refine z_lstore_n (pc' := 79) (lv' := [(3, .long (jL ((((σ 14 k) * (σ 8 s_)) - ((σ 3 0) * (σ 7 s_))).natAbs : Int))), (2, .int (jI k)), (6, .long (jL ((((σ 14 k) * (σ 8 s_)) - ((σ 3 0) * (σ 7 s_))).natAbs : Int))), (5, .int (jI k)), (0, .ref (q 0)), (1, .int (jI s_))]) X dX6_nearestTo_78 rfl rfl (by decide) rfl ?_
              refine z_iinc (pc' := 82) (lv' := [(5, .int (jI (k + 1))), (3, .long (jL ((((σ 14 k) * (σ 8 s_)) - ((σ 3 0) * (σ 7 s_))).natAbs : Int))), (2, .int (jI k)), (6, .long (jL ((((σ 14 k) * (σ 8 s_)) - ((σ 3 0) * (σ 7 s_))).natAbs : Int))), (0, .ref (q 0)), (1, .int (jI s_))]) X dX6_nearestTo_79 rfl 3 rfl (by decide) rfl ?_
              refine z_goto (tgt := 8) X dX6_nearestTo_82 (by decide) ?_
              refine z_lv (lv' := [(5, .int (jI (k + 1))), (3, .long (jL ((((σ 14 k) * (σ 8 s_)) - ((σ 3 0) * (σ 7 s_))).natAbs : Int))), (2, .int (jI k)), (0, .ref (q 0)), (1, .int (jI s_))]) [0, 1, 2, 4, 5] rfl ?_
              exact ih8 (k + 1) ((((σ 14 k) * (σ 8 s_)) - ((σ 3 0) * (σ 7 s_))).natAbs : Int) k  (by first | exact ⟨by omega, fun q => absurd q (by omega), by rw [nrI_succ _ h1.1, ← h3, if_pos h63], Or.inr rfl, by omega⟩ | exact ⟨by omega, fun q => absurd q (by omega), by rw [nrI_succ _ h1.1, ← h3, if_neg h63, if_pos (by have e := h4.resolve_left h63; dsimp only at e ⊢; omega)], Or.inr rfl, by omega⟩ | exact ⟨by omega, fun q => absurd q (by omega), by rw [nrI_succ _ h1.1, ← h3, if_neg h63, if_neg (by have e := h4.resolve_left h63; dsimp only at e ⊢; omega)], h4, by omega⟩) (by omega)
  exact lp8 _ 0 0 (-9)  (⟨by omega, fun _ => rfl, rfl, Or.inl rfl, by omega⟩) (Nat.lt_succ_self _)
set_option maxHeartbeats 4000000 in
set_option maxRecDepth 100000 in
theorem kX6_nearest (l : Launch) (D : va_G) (E : Nat → Nat) (q : Nat → Nat) (σ : St) (s_ : Int) (hwf : WfM σ) (hr : (-2147483648 ≤ s_ ∧ s_ < 2147483648)) : CtI l D E yX6_nearest wsX6_nearest ({ frames := 5, cells := 0, slots := 0, locals := 139 } : Room) [.ref (q 0), .int (jI s_)] (MW E q σ) (MW E q) (fun (rv : Int) (uu : St) => (rv = fNear (σ 0 0) (σ 3 0) (σ 4 0) (mA σ) (mV σ) (mB σ) (mW σ) (σ 13 0) (σ 14) s_ ∧ eqM uu σ)) := by
  refine mk_I (cc := cX6_nearest) (maxL := 3) (ret := some .int) (by decide) rfl (Nat.le_of_ble_eq_true rfl) ?_
  intro p e s m args below meth c A X hret
  have hin6 : ∀ x ∈ u_ws RX6 TX6 19, x ∈ wsX6_nearest := fun _ h => List.mem_cons_of_mem _ (List.mem_append_right _ h)
  refine z_lv (lv' := [(0, .ref (q 0)), (1, .int (jI s_))]) [0, 1] rfl ?_
  obtain ⟨n0, n3, n4, n13⟩ := hwf.n
  refine z_aload_n (pc' := 1) X dX6_nearest_0 rfl 0 rfl rfl ?_
  refine z_iload_n (pc' := 2) X dX6_nearest_1 rfl 1 rfl rfl ?_
  refine z_callVI (pc' := 5) (S := St) (As := [.int (jI s_)]) (rest := []) X dX6_nearest_2 rfl (kX6_isSection l D E q σ s_  (hwf) (by omega)) (cwV 1 X.1.2.2.2.2 gX6_nearest_X6_isSection rfl rfl rfl (by decide +kernel) ⟨Nat.le_of_ble_eq_true rfl, Nat.le_of_ble_eq_true rfl⟩) 0 rfl rfl rfl rfl (Nat.le_of_ble_eq_true rfl) (fun r2 u2 hp2 => ?_)
  obtain ⟨rfl, hp2⟩ := hp2
  rcases hp2 with ⟨rfl, hp2⟩ | ⟨rfl, hp2⟩
  · refine z_if_ne (tgt := 10) (pc' := 8) X dX6_nearest_5 (by decide) rfl (by omega) (fun _ => ?_) (fun h => absurd h (by decide))
    refine z_aload_n (pc' := 11) X dX6_nearest_10 rfl 0 rfl rfl ?_
    refine z_iconst (pc' := 12) X dX6_nearest_11 rfl ?_
    refine z_callVV (pc' := 15) (S := St) (As := [.int (jI 0)]) (rest := []) X dX6_nearest_12 rfl (kX6_spreadAll l D E q σ 0  (hwf) (by omega)) (cwV 1 X.1.2.2.2.2 gX6_nearest_X6_spreadAll rfl rfl rfl (by decide +kernel) ⟨Nat.le_of_ble_eq_true rfl, Nat.le_of_ble_eq_true rfl⟩) 0 rfl rfl rfl rfl (Nat.le_of_ble_eq_true rfl) (fun u12 hp12 => ?_)
    obtain ⟨hq12, hs12, hd12⟩ := hp12
    have w12 := hq12.wf hwf
    have e0 : u12 0 0 = σ 0 0 := by rw [hq12.1]
    have e3 : u12 3 0 = σ 3 0 := by rw [hq12.2.2.2.1]
    have e4 : u12 4 0 = σ 4 0 := by rw [hq12.2.2.2.2.1]
    have e13 : u12 13 0 = σ 13 0 := by rw [hq12.2.2.2.2.2.2.1]
    have j := sp_get hwf hq12 hd12 (by omega) (x := s_) (by omega)
    refine z_aload_n (pc' := 16) X dX6_nearest_15 rfl 0 rfl rfl ?_
    refine z_iload_n (pc' := 17) X dX6_nearest_16 rfl 1 rfl rfl ?_
    refine z_callVI (pc' := 20) (S := St) (As := [.int (jI s_)]) (rest := []) X dX6_nearest_17 rfl (kX6_nearestTo l D E q u12 s_  (w12) (by omega) (⟨j.1, fun q => (j.2.1 q).2.2.2.2.2.1⟩)) (cwV 1 X.1.2.2.2.2 gX6_nearest_X6_nearestTo rfl rfl rfl (by decide +kernel) ⟨Nat.le_of_ble_eq_true rfl, Nat.le_of_ble_eq_true rfl⟩) 0 rfl rfl rfl rfl (Nat.le_of_ble_eq_true rfl) (fun r17 u17 hp17 => ?_)
    obtain ⟨rfl, e17⟩ := hp17
    have hrg : r17 = -9 ∨ (0 ≤ r17 ∧ r17 < σ 13 0) := nr_rng e13 n13 e17
    refine z_istore_n (pc' := 21) (lv' := [(2, .int (jI r17)), (0, .ref (q 0)), (1, .int (jI s_))]) X dX6_nearest_20 rfl rfl (by decide) rfl ?_
    refine z_iload_n (pc' := 22) X dX6_nearest_21 rfl 0 rfl rfl ?_
    refine z_bipush (pc' := 24) X dX6_nearest_22 rfl rfl ?_
    refine z_icmp_ne (tgt := 32) (pc' := 27) X dX6_nearest_24 (by decide) rfl (by omega) (fun h24 => ?_) (fun h24 => ?_)
    · refine z_aload_n (pc' := 33) X dX6_nearest_32 rfl 1 rfl rfl ?_
      refine z_get (pc' := 36) (C := RX6) (ref := "PivotBeatsModel") (T := TX6) (N := 19) (v := .ref (q 14)) X dX6_nearest_33 rfl hin6 0 rfl rfl 14 (by decide) (by decide +kernel) rfl rfl ?_
      refine z_iload_n (pc' := 37) X dX6_nearest_36 rfl 0 rfl rfl ?_
      refine z_iald (pc' := 38) (f := u12 14) (n := 16) X dX6_nearest_37 rfl 10 rfl (by decide) (by omega) ?_
      exact z_iret (post := (fun (rv : Int) (uu : St) => (rv = fNear (σ 0 0) (σ 3 0) (σ 4 0) (mA σ) (mV σ) (mB σ) (mW σ) (σ 13 0) (σ 14) s_ ∧ eqM uu σ))) X dX6_nearest_38 hret u12 (by first | exact ⟨near_9 hwf hp2 hq12 j e17 h24, hq12⟩ | exact ⟨near_k hwf hp2 hq12 j e17 h24, hq12⟩)
    · refine z_bipush (pc' := 29) X dX6_nearest_27 rfl rfl ?_
      refine z_goto (tgt := 38) X dX6_nearest_29 (by decide) ?_
      exact z_iret (post := (fun (rv : Int) (uu : St) => (rv = fNear (σ 0 0) (σ 3 0) (σ 4 0) (mA σ) (mV σ) (mB σ) (mW σ) (σ 13 0) (σ 14) s_ ∧ eqM uu σ))) X dX6_nearest_38 hret u12 (by first | exact ⟨near_9 hwf hp2 hq12 j e17 h24, hq12⟩ | exact ⟨near_k hwf hp2 hq12 j e17 h24, hq12⟩)
  · refine z_if_ne (tgt := 10) (pc' := 8) X dX6_nearest_5 (by decide) rfl (by omega) (fun h => absurd h (by decide)) (fun _ => ?_)
    refine z_iconst (pc' := 9) X dX6_nearest_8 rfl ?_
    exact z_iret (post := (fun (rv : Int) (uu : St) => (rv = fNear (σ 0 0) (σ 3 0) (σ 4 0) (mA σ) (mV σ) (mB σ) (mW σ) (σ 13 0) (σ 14) s_ ∧ eqM uu σ))) X dX6_nearest_9 hret σ (⟨by unfold fNear; rw [if_neg hp2], eqM.rf σ⟩)
set_option maxHeartbeats 4000000 in
set_option maxRecDepth 100000 in
theorem kX6_away (l : Launch) (D : va_G) (E : Nat → Nat) (q : Nat → Nat) (σ : St) (s_ which : Int) (hwf : WfM σ) (hr : (-2147483648 ≤ s_ ∧ s_ < 2147483648) ∧ (-2147483648 ≤ which ∧ which < 2147483648)) : CtL l D E yX6_away wsX6_away ({ frames := 5, cells := 0, slots := 0, locals := 139 } : Room) [.ref (q 0), .int (jI s_), .int (jI which)] (MW E q σ) (MW E q) (fun (rv : Int) (uu : St) => (rv = fAway (σ 0 0) (σ 3 0) (σ 4 0) (mA σ) (mV σ) (mB σ) (mW σ) (σ 13 0) (σ 14) s_ which ∧ eqM uu σ)) := by
  refine mk_L (cc := cX6_away) (maxL := 6) (ret := some .long) (by decide) rfl (Nat.le_of_ble_eq_true rfl) ?_
  intro p e s m args below meth c A X hret
  have hin6 : ∀ x ∈ u_ws RX6 TX6 19, x ∈ wsX6_away := fun _ h => List.mem_cons_of_mem _ (List.mem_append_right _ h)
  refine z_lv (lv' := [(0, .ref (q 0)), (1, .int (jI s_)), (2, .int (jI which))]) [0, 1, 2] rfl ?_
  obtain ⟨n0, n3, n4, n13⟩ := hwf.n
  refine z_aload_n (pc' := 1) X dX6_away_0 rfl 0 rfl rfl ?_
  refine z_iload_n (pc' := 2) X dX6_away_1 rfl 1 rfl rfl ?_
  refine z_callVI (pc' := 5) (S := St) (As := [.int (jI s_)]) (rest := []) X dX6_away_2 rfl (kX6_isSection l D E q σ s_  (hwf) (by omega)) (cwV 1 X.1.2.2.2.2 gX6_away_X6_isSection rfl rfl rfl (by decide +kernel) ⟨Nat.le_of_ble_eq_true rfl, Nat.le_of_ble_eq_true rfl⟩) 0 rfl rfl rfl rfl (Nat.le_of_ble_eq_true rfl) (fun r2 u2 hp2 => ?_)
  obtain ⟨rfl, hp2⟩ := hp2
  rcases hp2 with ⟨rfl, hp2⟩ | ⟨rfl, hp2⟩
  · refine z_if_ne (tgt := 12) (pc' := 8) X dX6_away_5 (by decide) rfl (by omega) (fun _ => ?_) (fun h => absurd h (by decide))
    refine z_iload_n (pc' := 13) X dX6_away_12 rfl 2 rfl rfl ?_
    refine z_iconst (pc' := 14) X dX6_away_13 rfl ?_
    refine z_iconst (pc' := 15) X dX6_away_14 rfl ?_
    refine z_callPI (pc' := 18) (S := Unit) (As := [.int (jI which), .int (jI 0), .int (jI 1)]) (rest := []) X dX6_away_15 rfl (kX6_isIn l D E which 0 1  (by omega)) (va_cwS 3 X.1.2.2.2.2 gX6_away_X6_isIn rfl rfl rfl (by decide +kernel) ⟨Nat.le_of_ble_eq_true rfl, Nat.le_of_ble_eq_true rfl⟩) rfl rfl (Nat.le_of_ble_eq_true rfl) (fun r15 u15 hp15 => ?_)
    skip
    rcases hp15 with ⟨rfl, hp15⟩ | ⟨rfl, hp15⟩
    · refine z_if_ne (tgt := 25) (pc' := 21) X dX6_away_18 (by decide) rfl (by omega) (fun _ => ?_) (fun h => absurd h (by decide))
      refine z_aload_n (pc' := 26) X dX6_away_25 rfl 0 rfl rfl ?_
      refine z_iconst (pc' := 27) X dX6_away_26 rfl ?_
      refine z_callVV (pc' := 30) (S := St) (As := [.int (jI 0)]) (rest := []) X dX6_away_27 rfl (kX6_spreadAll l D E q σ 0  (hwf) (by omega)) (cwV 1 X.1.2.2.2.2 gX6_away_X6_spreadAll rfl rfl rfl (by decide +kernel) ⟨Nat.le_of_ble_eq_true rfl, Nat.le_of_ble_eq_true rfl⟩) 0 rfl rfl rfl rfl (Nat.le_of_ble_eq_true rfl) (fun u27 hp27 => ?_)
      obtain ⟨hq27, hs27, hd27⟩ := hp27
      have w27 := hq27.wf hwf
      have e0 : u27 0 0 = σ 0 0 := by rw [hq27.1]
      have e3 : u27 3 0 = σ 3 0 := by rw [hq27.2.2.2.1]
      have e4 : u27 4 0 = σ 4 0 := by rw [hq27.2.2.2.2.1]
      have e13 : u27 13 0 = σ 13 0 := by rw [hq27.2.2.2.2.2.2.1]
      have j := sp_get hwf hq27 hd27 (by omega) (x := s_) (by omega)
      refine z_aload_n (pc' := 31) X dX6_away_30 rfl 0 rfl rfl ?_
      refine z_iload_n (pc' := 32) X dX6_away_31 rfl 1 rfl rfl ?_
      refine z_callVI (pc' := 35) (S := St) (As := [.int (jI s_)]) (rest := []) X dX6_away_32 rfl (kX6_nearestTo l D E q u27 s_  (w27) (by omega) (⟨j.1, fun q => (j.2.1 q).2.2.2.2.2.1⟩)) (cwV 1 X.1.2.2.2.2 gX6_away_X6_nearestTo rfl rfl rfl (by decide +kernel) ⟨Nat.le_of_ble_eq_true rfl, Nat.le_of_ble_eq_true rfl⟩) 0 rfl rfl rfl rfl (Nat.le_of_ble_eq_true rfl) (fun r32 u32 hp32 => ?_)
      obtain ⟨rfl, e32⟩ := hp32
      have hrg : r32 = -9 ∨ (0 ≤ r32 ∧ r32 < σ 13 0) := nr_rng e13 n13 e32
      refine z_istore_n (pc' := 36) (lv' := [(3, .int (jI r32)), (0, .ref (q 0)), (1, .int (jI s_)), (2, .int (jI which))]) X dX6_away_35 rfl rfl (by decide) rfl ?_
      refine z_iload_n (pc' := 37) X dX6_away_36 rfl 0 rfl rfl ?_
      refine z_bipush (pc' := 39) X dX6_away_37 rfl rfl ?_
      refine z_icmp_ne (tgt := 46) (pc' := 42) X dX6_away_39 (by decide) rfl (by omega) (fun h39 => ?_) (fun h39 => ?_)
      · have hz : ¬ u27 7 s_ = 0 := fun q => h39 (by rw [e32, if_pos q])
        obtain ⟨jj, j7, j8, j9, jb, jc, jd⟩ := j.2.1 hz
        have hk := w27.2.2.2.2.2.2.2.1 r32 (by omega) (by omega)
        have hpk := mul_bd (a := u27 14 r32) (b := u27 8 s_) (A := 400) (B := 68719476736) (by omega) (by omega)
        have hpr := mul_bd (a := u27 3 0) (b := u27 7 s_) (A := 400) (B := 68719476736) (by omega) (by omega)
        refine z_aload_n (pc' := 47) X dX6_away_46 rfl 1 rfl rfl ?_
        refine z_get (pc' := 50) (C := RX6) (ref := "PivotBeatsModel") (T := TX6) (N := 19) (v := .ref (q 14)) X dX6_away_47 rfl hin6 0 rfl rfl 14 (by decide) (by decide +kernel) rfl rfl ?_
        refine z_iload_n (pc' := 51) X dX6_away_50 rfl 0 rfl rfl ?_
        refine z_iald (pc' := 52) (f := u27 14) (n := 16) X dX6_away_51 rfl 10 rfl (by decide) (by omega) ?_
        refine z_i2l (pc' := 53) X dX6_away_52 rfl (by omega) ?_
        refine z_aload_n (pc' := 54) X dX6_away_53 rfl 1 rfl rfl ?_
        refine z_get (pc' := 57) (C := RX6) (ref := "PivotBeatsModel") (T := TX6) (N := 19) (v := .ref (q 8)) X dX6_away_54 rfl hin6 0 rfl rfl 8 (by decide) (by decide +kernel) rfl rfl ?_
        refine z_iload_n (pc' := 58) X dX6_away_57 rfl 2 rfl rfl ?_
        refine z_lald (pc' := 59) (f := u27 8) (n := 7) X dX6_away_58 rfl 6 rfl (by decide) (by omega) ?_
        refine z_lmul (pc' := 60) X dX6_away_59 rfl ?_
        refine z_aload_n (pc' := 61) X dX6_away_60 rfl 1 rfl rfl ?_
        refine z_get (pc' := 64) (C := RX6) (ref := "PivotBeatsModel") (T := TX6) (N := 19) (v := .int (jI (u27 3 0))) X dX6_away_61 rfl hin6 0 rfl rfl 3 (by decide) (by decide +kernel) rfl rfl ?_
        refine z_i2l (pc' := 65) X dX6_away_64 rfl (by omega) ?_
        refine z_aload_n (pc' := 66) X dX6_away_65 rfl 1 rfl rfl ?_
        refine z_get (pc' := 69) (C := RX6) (ref := "PivotBeatsModel") (T := TX6) (N := 19) (v := .ref (q 7)) X dX6_away_66 rfl hin6 0 rfl rfl 7 (by decide) (by decide +kernel) rfl rfl ?_
        refine z_iload_n (pc' := 70) X dX6_away_69 rfl 2 rfl rfl ?_
        refine z_lald (pc' := 71) (f := u27 7) (n := 7) X dX6_away_70 rfl 5 rfl (by decide) (by omega) ?_
        refine z_lmul (pc' := 72) X dX6_away_71 rfl ?_
        refine z_callPL (pc' := 75) (S := Unit) (As := [.long (jL ((u27 14 r32) * (u27 8 s_))), .long (jL ((u27 3 0) * (u27 7 s_)))]) (rest := []) X dX6_away_72 rfl (kX6_apart l D E ((u27 14 r32) * (u27 8 s_)) ((u27 3 0) * (u27 7 s_))  (by omega)) (va_cwS 2 X.1.2.2.2.2 gX6_away_X6_apart rfl rfl rfl (by decide +kernel) ⟨Nat.le_of_ble_eq_true rfl, Nat.le_of_ble_eq_true rfl⟩) rfl rfl (Nat.le_of_ble_eq_true rfl) (fun r72 u72 hp72 => ?_)
        replace hp72 := hp72.symm; subst hp72
        refine z_lstore (pc' := 77) (lv' := [(4, .long (jL ((((u27 14 r32) * (u27 8 s_)) - ((u27 3 0) * (u27 7 s_))).natAbs : Int))), (3, .int (jI r32)), (0, .ref (q 0)), (1, .int (jI s_)), (2, .int (jI which))]) X dX6_away_75 rfl (by decide) rfl ?_
        refine z_lload (pc' := 79) X dX6_away_77 rfl 0 rfl ?_
        refine z_lconst (pc' := 80) (x := 0) X dX6_away_79 rfl rfl ?_
        refine z_lcmp_ne (tgt := 89) (pc' := 84) X dX6_away_80 (pc1 := 81) rfl dX6_away_81 (by decide) rfl (by omega) (fun h80 => ?_) (fun h80 => ?_)
        · refine z_lload (pc' := 91) X dX6_away_89 rfl 0 rfl ?_
          refine z_aload_n (pc' := 92) X dX6_away_91 rfl 2 rfl rfl ?_
          refine z_get (pc' := 95) (C := RX6) (ref := "PivotBeatsModel") (T := TX6) (N := 19) (v := .ref (q 8)) X dX6_away_92 rfl hin6 0 rfl rfl 8 (by decide) (by decide +kernel) rfl rfl ?_
          refine z_iload_n (pc' := 96) X dX6_away_95 rfl 3 rfl rfl ?_
          refine z_lald (pc' := 97) (f := u27 8) (n := 7) X dX6_away_96 rfl 6 rfl (by decide) (by omega) ?_
          refine z_iload_n (pc' := 98) X dX6_away_97 rfl 4 rfl rfl ?_
          refine z_callPL (pc' := 101) (S := Unit) (As := [.long (jL ((((u27 14 r32) * (u27 8 s_)) - ((u27 3 0) * (u27 7 s_))).natAbs : Int)), .long (jL (u27 8 s_)), .int (jI which)]) (rest := []) X dX6_away_98 rfl (kX6_told l D E ((((u27 14 r32) * (u27 8 s_)) - ((u27 3 0) * (u27 7 s_))).natAbs : Int) (u27 8 s_) which  (by omega)) (va_cwS 3 X.1.2.2.2.2 gX6_away_X6_told rfl rfl rfl (by decide +kernel) ⟨Nat.le_of_ble_eq_true rfl, Nat.le_of_ble_eq_true rfl⟩) rfl rfl (Nat.le_of_ble_eq_true rfl) (fun r98 u98 hp98 => ?_)
          replace hp98 := hp98.symm; subst hp98
          exact z_lret (post := (fun (rv : Int) (uu : St) => (rv = fAway (σ 0 0) (σ 3 0) (σ 4 0) (mA σ) (mV σ) (mB σ) (mW σ) (σ 13 0) (σ 14) s_ which ∧ eqM uu σ))) X dX6_away_101 hret u27 (by first | exact ⟨away_0 hwf hp2 hp15 hq27 j e32 h39 h80, hq27⟩ | exact ⟨away_k hwf hp2 hp15 hq27 j e32 h39 h80, hq27⟩)
        · refine z_iload_n (pc' := 85) X dX6_away_84 rfl 4 rfl rfl ?_
          refine z_i2l (pc' := 86) X dX6_away_85 rfl (by omega) ?_
          refine z_goto (tgt := 101) X dX6_away_86 (by decide) ?_
          exact z_lret (post := (fun (rv : Int) (uu : St) => (rv = fAway (σ 0 0) (σ 3 0) (σ 4 0) (mA σ) (mV σ) (mB σ) (mW σ) (σ 13 0) (σ 14) s_ which ∧ eqM uu σ))) X dX6_away_101 hret u27 (by first | exact ⟨away_0 hwf hp2 hp15 hq27 j e32 h39 h80, hq27⟩ | exact ⟨away_k hwf hp2 hp15 hq27 j e32 h39 h80, hq27⟩)
      · refine z_ldc2 (pc' := 45) (x := -9) X dX6_away_42 rfl (by decide +kernel) rfl ?_
        exact z_lret (post := (fun (rv : Int) (uu : St) => (rv = fAway (σ 0 0) (σ 3 0) (σ 4 0) (mA σ) (mV σ) (mB σ) (mW σ) (σ 13 0) (σ 14) s_ which ∧ eqM uu σ))) X dX6_away_45 hret u27 (⟨away_9 hwf hp2 hp15 hq27 j e32 h39, hq27⟩)
    · refine z_if_ne (tgt := 25) (pc' := 21) X dX6_away_18 (by decide) rfl (by omega) (fun h => absurd h (by decide)) (fun _ => ?_)
      refine z_ldc2 (pc' := 24) (x := -2) X dX6_away_21 rfl (by decide +kernel) rfl ?_
      exact z_lret (post := (fun (rv : Int) (uu : St) => (rv = fAway (σ 0 0) (σ 3 0) (σ 4 0) (mA σ) (mV σ) (mB σ) (mW σ) (σ 13 0) (σ 14) s_ which ∧ eqM uu σ))) X dX6_away_24 hret σ (⟨by unfold fAway; rw [if_pos hp2, if_neg hp15], eqM.rf σ⟩)
  · refine z_if_ne (tgt := 12) (pc' := 8) X dX6_away_5 (by decide) rfl (by omega) (fun h => absurd h (by decide)) (fun _ => ?_)
    refine z_ldc2 (pc' := 11) (x := -1) X dX6_away_8 rfl (by decide +kernel) rfl ?_
    exact z_lret (post := (fun (rv : Int) (uu : St) => (rv = fAway (σ 0 0) (σ 3 0) (σ 4 0) (mA σ) (mV σ) (mB σ) (mW σ) (σ 13 0) (σ 14) s_ which ∧ eqM uu σ))) X dX6_away_11 hret σ (⟨by unfold fAway; rw [if_neg hp2], eqM.rf σ⟩)
