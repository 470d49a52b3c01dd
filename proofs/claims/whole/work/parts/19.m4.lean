theorem fs_rng {u : St} {x t1 t2 : Int} {n : Nat} (hv : (0 ≤ u 7 x ∧ u 7 x ≤ 68719476736) ∧ (¬ u 7 x = 0 → (1 ≤ u 8 x ∧ u 8 x ≤ 68719476736) ∧ (0 ≤ u 9 x ∧ u 9 x < 2 ^ n))) (h0 : ¬ u 7 x = 0) (h1 : 4 ≤ t1 ∧ t1 ≤ 144) (h2 : 4 ≤ t2 ∧ t2 ≤ 144) : (0 ≤ u 7 x * t1 ∧ u 7 x * t1 < 9223372036854775808) ∧ (0 ≤ u 8 x * t2 ∧ u 8 x * t2 < 9223372036854775808) := by
  obtain ⟨⟨a1, a2⟩, q⟩ := hv
  obtain ⟨⟨b1, b2⟩, c1, c2⟩ := q h0
  have l1 : u 7 x * t1 ≤ 68719476736 * 144 := Int.mul_le_mul a2 h1.2 (by omega) (by omega)
  have l2 : u 8 x * t2 ≤ 68719476736 * 144 := Int.mul_le_mul b2 h2.2 (by omega) (by omega)
  have l3 : 0 ≤ u 7 x * t1 := Int.mul_nonneg a1 (by omega)
  have l4 : 0 ≤ u 8 x * t2 := Int.mul_nonneg (by omega) (by omega)
  omega
theorem fs_step {σ u1 u2 u3 : St} {k : Int} (w1 : WfM u1) (h1 : eqM u1 σ) (hk : 0 ≤ k ∧ k < σ 4 0) (h3 : srt u1 k) (hq : eqM u2 u1) (hs : u2 6 = u1 6) (hd : SPD u2 k (u1 5 (5 * k)))
    (hc : (u2 7 (u1 5 (5 * k + 2)) = 0 ∧ u3 = up u2 6 k 0) ∨ (¬ u2 7 (u1 5 (5 * k + 2)) = 0 ∧ u2 7 (u1 5 (5 * k + 2)) * tk (u1 5 (5 * k + 1)) = u2 8 (u1 5 (5 * k + 2)) * tk (u1 5 (5 * k + 3)) ∧ u3 = up u2 6 k 1) ∨ (¬ u2 7 (u1 5 (5 * k + 2)) = 0 ∧ ¬ u2 7 (u1 5 (5 * k + 2)) * tk (u1 5 (5 * k + 1)) = u2 8 (u1 5 (5 * k + 2)) * tk (u1 5 (5 * k + 3)) ∧ u3 = up u2 6 k 2)) :
    eqM u3 σ ∧ (0 ≤ k + 1 ∧ k + 1 ≤ σ 4 0) ∧ srt u3 (k + 1) := by
  have e4 : u1 4 0 = σ 4 0 := by rw [h1.2.2.2.2.1]
  have ht := w1.tie (k := k) (by omega) (by omega)
  have n0 := w1.n.1
  obtain ⟨t1, t2, t3, t4, -⟩ := hq.ties
  obtain ⟨d1, d2⟩ := hd
  rw [t1, t2, t3, t4] at d1 d2
  have hkN : ((k.toNat : Nat) : Int) = k := by omega
  have eA : mA u1 ((k.toNat : Nat) : Int) = u1 5 (5 * k) := by rw [hkN]; rfl
  have eB : mB u1 ((k.toNat : Nat) : Int) = u1 5 (5 * k + 2) := by rw [hkN]; rfl
  have eV : mV u1 ((k.toNat : Nat) : Int) = u1 5 (5 * k + 1) := by rw [hkN]; rfl
  have eW : mW u1 ((k.toNat : Nat) : Int) = u1 5 (5 * k + 3) := by rw [hkN]; rfl
  have hmet := SP_met d1 (by rw [hkN]; exact d2) (x := u1 5 (5 * k + 2)) (by omega)
  have hkind : ∃ z, u3 = up u2 6 k z ∧ z = jK (mA u1) (mV u1) (mB u1) (mW u1) k.toNat := by
    have hval : ¬ u2 7 (u1 5 (5 * k + 2)) = 0 → (u2 7 (u1 5 (5 * k + 2)) * tk (u1 5 (5 * k + 1)) = u2 8 (u1 5 (5 * k + 2)) * tk (u1 5 (5 * k + 3)) ↔ jS (mA u1) (mV u1) (mB u1) (mW u1) k.toNat 1 (u1 5 (5 * k + 2)) - jS (mA u1) (mV u1) (mB u1) (mW u1) k.toNat 1 (u1 5 (5 * k)) = tw (u1 5 (5 * k + 3)) - tw (u1 5 (5 * k + 1)) ∧ jS (mA u1) (mV u1) (mB u1) (mW u1) k.toNat 2 (u1 5 (5 * k + 2)) - jS (mA u1) (mV u1) (mB u1) (mW u1) k.toNat 2 (u1 5 (5 * k)) = th (u1 5 (5 * k + 3)) - th (u1 5 (5 * k + 1))) := by
      intro q
      obtain ⟨-, x1, x2, -⟩ := (d1.2.1 (u1 5 (5 * k + 2)) (by omega)).resolve_left q
      rw [x1, x2]
      exact pU_agree ht.2.1 ht.2.2.2.1
    unfold jK
    rw [eA, eB, eV, eW]
    rcases hc with ⟨c1, c2⟩ | ⟨c1, c2, c3⟩ | ⟨c1, c2, c3⟩
    · refine ⟨0, c2, ?_⟩
      rw [if_neg (fun z => hmet.mpr z.symm c1)]
    · refine ⟨1, c3, ?_⟩
      rw [if_pos (hmet.mp c1).symm, if_pos ((hval c1).mp c2)]
    · refine ⟨2, c3, ?_⟩
      rw [if_pos (hmet.mp c1).symm, if_neg (fun z => c2 ((hval c1).mpr z))]
  obtain ⟨z, hu, hz⟩ := hkind
  have heq : eqM u3 u1 := by rw [hu]; exact hq
  refine ⟨heq.tr h1, by omega, ?_⟩
  obtain ⟨s1, s2, s3, s4, -⟩ := heq.ties
  intro j hj
  rw [s1, s2, s3, s4]
  have e6 : u3 6 (j : Int) = if (j : Int) = k then z else u2 6 j := by rw [hu]; exact up_i u2 6 k z j
  rw [e6]
  by_cases e : (j : Int) = k
  · rw [if_pos e, hz, show k.toNat = j by omega]
  · rw [if_neg e, hs]
    exact h3 j (by omega)
theorem sa_srt {u2 u1 : St} {m : Int} (hq : eqM u2 u1) (h6 : u2 6 = u1 6) (h : srt u1 m) : srt u2 m := by
  obtain ⟨s1, s2, s3, s4, -⟩ := hq.ties
  intro j hj
  rw [s1, s2, s3, s4, h6]
  exact h j hj
theorem pl_step {mk : Int → Int} {m k : Int} (h2 : ∀ j, 0 ≤ j → j < k → ¬ mk j = m) (h : ¬ mk k = m) (j : Int) (j0 : 0 ≤ j) (j1 : j < k + 1) : ¬ mk j = m := by
  rcases (show j = k ∨ j < k by omega) with q | q
  · rw [q]; exact h
  · exact h2 j j0 q
theorem lm_rng {u : St} {x least : Int} (hm : SPm u) (hx : x ≤ u 10 0) (h3 : (x = 0 ∧ least = 7) ∨ ∃ i, (0 ≤ i ∧ i < x) ∧ least = u 11 i) : -9 ≤ least ∧ least ≤ 7 := by
  rcases h3 with q | ⟨i, q, r⟩
  · omega
  · have := hm.1 i q.1 (by omega); omega
theorem lm_a {f : Int → Int} {x least : Int} (h2 : ∀ i, 0 ≤ i → i < x → least ≤ f i) (h : f x < least) (i : Int) (i0 : 0 ≤ i) (i1 : i < x + 1) : f x ≤ f i := by
  rcases (show i = x ∨ i < x by omega) with q | q
  · rw [q]; exact Int.le_refl _
  · have := h2 i i0 q; omega
theorem lm_b {f : Int → Int} {x least : Int} (h2 : ∀ i, 0 ≤ i → i < x → least ≤ f i) (h : least ≤ f x) (i : Int) (i0 : 0 ≤ i) (i1 : i < x + 1) : least ≤ f i := by
  rcases (show i = x ∨ i < x by omega) with q | q
  · rw [q]; exact h
  · exact h2 i i0 q
theorem lm_c {f : Int → Int} {x least : Int} (h1 : 0 ≤ x) (h3 : (x = 0 ∧ least = 7) ∨ ∃ i, (0 ≤ i ∧ i < x) ∧ least = f i) (h : least ≤ f x) (hx : 0 ≤ f x ∧ f x < 7) : (x + 1 = 0 ∧ least = 7) ∨ ∃ i, (0 ≤ i ∧ i < x + 1) ∧ least = f i := by
  rcases h3 with q | ⟨i, q, r⟩
  · omega
  · right; exact ⟨i, by omega, r⟩
theorem jS_idem {a v b w : Int → Int} {N : Nat} (h : tOk a v b w N) : ∀ n : Nat, n ≤ N → ∀ s : Int, 0 ≤ s ∧ s < 7 → jS a v b w n 0 (jS a v b w n 0 s) = jS a v b w n 0 s := by
  intro n
  induction n with
  | zero => intro _ s hs; rw [(jS_z s).1, (jS_z s).1]
  | succ n ih =>
    intro hn s hs
    have ih := ih (by omega)
    have i2 := ih (a n) (h n (by omega)).1
    have i3 := ih (b n) (h n (by omega)).2.1
    by_cases hk : jS a v b w n 0 (a n) = jS a v b w n 0 (b n)
    · rw [jS_same hk, jS_same hk]; exact ih s hs
    · have mn : min (jS a v b w n 0 (a n)) (jS a v b w n 0 (b n)) = jS a v b w n 0 (a n) ∨ min (jS a v b w n 0 (a n)) (jS a v b w n 0 (b n)) = jS a v b w n 0 (b n) := by omega
      have key : ∀ z, z = jS a v b w n 0 (a n) ∨ z = jS a v b w n 0 (b n) → jS a v b w (n + 1) 0 z = min (jS a v b w n 0 (a n)) (jS a v b w n 0 (b n)) := by
        intro z hz
        rw [jS_k0 hk]
        rcases hz with rfl | rfl
        · rw [i2, if_neg hk, if_pos rfl]
        · rw [i3, if_pos rfl]
      by_cases h1 : jS a v b w n 0 s = jS a v b w n 0 (b n)
      · have e : jS a v b w (n + 1) 0 s = min (jS a v b w n 0 (a n)) (jS a v b w n 0 (b n)) := by rw [jS_k0 hk, if_pos h1]
        rw [e]
        exact key _ mn
      · by_cases h2 : jS a v b w n 0 s = jS a v b w n 0 (a n)
        · have e : jS a v b w (n + 1) 0 s = min (jS a v b w n 0 (a n)) (jS a v b w n 0 (b n)) := by rw [jS_k0 hk, if_neg h1, if_pos h2]
          rw [e]
          exact key _ mn
        · have e : jS a v b w (n + 1) 0 s = jS a v b w n 0 s := by rw [jS_k0 hk, if_neg h1, if_neg h2]
          rw [e, jS_k0 hk, ih s hs, if_neg h1, if_neg h2]
theorem lm_end {u : St} {f least : Int} (hwf : WfM u) (d1 : SPI (mA u) (mV u) (mB u) (mW u) (u 4 0).toNat f u) (d2 : SPc (mA u) (mV u) (mB u) (mW u) u (u 4 0)) (hf : 0 ≤ f ∧ f < 7) (h2 : ∀ i, 0 ≤ i → i < u 10 0 → least ≤ u 11 i) (h3 : (u 10 0 = 0 ∧ least = 7) ∨ ∃ i, (0 ≤ i ∧ i < u 10 0) ∧ least = u 11 i) : jS (mA u) (mV u) (mB u) (mW u) (u 4 0).toNat 0 f = least := by
  have n4 := hwf.n.2.2.1
  have d2' : SPc (mA u) (mV u) (mB u) (mW u) u ((u 4 0).toNat : Int) := by rw [show (((u 4 0).toNat : Nat) : Int) = u 4 0 by omega]; exact d2
  have le := jS_le hwf.tok _ (Nat.le_refl _)
  have id := jS_idem hwf.tok _ (Nat.le_refl _) f hf
  have lf := le f hf
  have d1' : SPI (mA u) (mV u) (mB u) (mW u) (u 4 0).toNat f u := d1
  obtain ⟨g1, -, -, -, -, ⟨g6, -, g8⟩, -⟩ := d1
  rcases h3 with q | ⟨i, q, r⟩
  · omega
  · have hi := g6 i q.1 q.2
    have mi := (SP_met d1' d2' hi.1).mp hi.2
    have li := le (u 11 i) hi.1
    have mz := (SP_met d1' d2' (x := jS (mA u) (mV u) (mB u) (mW u) (u 4 0).toNat 0 f) (by omega)).mpr id
    obtain ⟨j, j0, j1, j2⟩ := g8 _ (by omega) mz
    have := h2 j j0 j1
    rw [j2] at this
    rw [r] at this ⊢
    omega

set_option maxHeartbeats 4000000 in
set_option maxRecDepth 100000 in
theorem kX6_findSorts (l : Launch) (D : va_G) (E : Nat → Nat) (q : Nat → Nat) (σ : St) (hwf : WfM σ) : CtV l D E yX6_findSorts wsX6_findSorts ({ frames := 3, cells := 0, slots := 0, locals := 92 } : Room) [.ref (q 0)] (MW E q σ) (MW E q) (fun (uu : St) => eqM uu σ ∧ srt uu (σ 4 0)) := by
  refine mk_V (cc := cX6_findSorts) (maxL := 7) (ret := none) (by decide) rfl (Nat.le_of_ble_eq_true rfl) ?_
  intro p e s m args below meth c A X hret
  have hin6 : ∀ x ∈ u_ws RX6 TX6 19, x ∈ wsX6_findSorts := fun _ h => List.mem_cons_of_mem _ (List.mem_append_right _ h)
  refine z_lv (lv' := [(0, .ref (q 0))]) [0] rfl ?_
  obtain ⟨n0, n3, n4, n13⟩ := hwf.n
  refine z_iconst (pc' := 1) X dX6_findSorts_0 rfl ?_
  refine z_istore_n (pc' := 2) (lv' := [(1, .int (jI 0)), (0, .ref (q 0))]) X dX6_findSorts_1 rfl rfl (by decide) rfl ?_
  have lp2 : ∀ (nF : Nat) (k : Int) (u1 : St) , (eqM u1 σ ∧ (0 ≤ k ∧ k ≤ σ 4 0) ∧ srt u1 k) → ((12 - k).toNat : Nat) < nF → J p l e (headSpec wsX6_findSorts ({ frames := 3, cells := 0, slots := 0, locals := 92 } : Room)).room s m args below meth c D A 7 (MQ below (va_Qv (fun (uu : St) => eqM uu σ ∧ srt uu (σ 4 0)) (Bw D (MW E q) A) A) args s 0 0 A) 2 [(1, .int (jI k)), (0, .ref (q 0))] [] (MW E q u1) := by
    intro nF
    induction nF with
    | zero => intro k u1  hI hn; exact absurd hn (Nat.not_lt_zero _)
    | succ nF ih2 =>
      intro k u1  hI hn
      obtain ⟨h1, h2, h3⟩ := hI
      have w1 := h1.wf hwf
      have e4 : u1 4 0 = σ 4 0 := by rw [h1.2.2.2.2.1]
      have e0 : u1 0 0 = σ 0 0 := by rw [h1.1]
      refine z_iload_n (pc' := 3) X dX6_findSorts_2 rfl 0 rfl rfl ?_
      refine z_aload_n (pc' := 4) X dX6_findSorts_3 rfl 1 rfl rfl ?_
      refine z_get (pc' := 7) (C := RX6) (ref := "PivotBeatsModel") (T := TX6) (N := 19) (v := .int (jI (u1 4 0))) X dX6_findSorts_4 rfl hin6 0 rfl rfl 4 (by decide) (by decide +kernel) rfl rfl ?_
      refine z_icmp_ge (tgt := 118) (pc' := 10) X dX6_findSorts_7 (by decide) rfl (by omega) (fun h7 => ?_) (fun h7 => ?_)
      · exact z_vret (post := (fun (uu : St) => eqM uu σ ∧ srt uu (σ 4 0))) X dX6_findSorts_118 hret u1 (⟨h1, by rw [← show k = σ 4 0 by omega]; exact h3⟩)
      · have ht := w1.tie (k := k) (by omega) (by omega)
        have ta := tk_rng ht.2.1
        have tb := tk_rng ht.2.2.2.1
        refine z_aload_n (pc' := 11) X dX6_findSorts_10 rfl 1 rfl rfl ?_
        refine z_get (pc' := 14) (C := RX6) (ref := "PivotBeatsModel") (T := TX6) (N := 19) (v := .ref (q 5)) X dX6_findSorts_11 rfl hin6 0 rfl rfl 5 (by decide) (by decide +kernel) rfl rfl ?_
        refine z_iconst (pc' := 15) X dX6_findSorts_14 rfl ?_
        refine z_iload_n (pc' := 16) X dX6_findSorts_15 rfl 0 rfl rfl ?_
        refine z_imul (pc' := 17) X dX6_findSorts_16 rfl ?_
        refine z_iconst (pc' := 18) X dX6_findSorts_17 rfl ?_
        refine z_iadd (pc' := 19) X dX6_findSorts_18 rfl ?_
        refine z_iald (pc' := 20) (f := u1 5) (n := 60) X dX6_findSorts_19 rfl 3 rfl (by decide) (by omega) ?_
        refine z_istore_n (pc' := 21) (lv' := [(2, .int (jI (u1 5 ((5 * k) + 2)))), (1, .int (jI k)), (0, .ref (q 0))]) X dX6_findSorts_20 rfl rfl (by decide) rfl ?_
        refine z_aload_n (pc' := 22) X dX6_findSorts_21 rfl 2 rfl rfl ?_
        refine z_get (pc' := 25) (C := RX6) (ref := "PivotBeatsModel") (T := TX6) (N := 19) (v := .ref (q 5)) X dX6_findSorts_22 rfl hin6 0 rfl rfl 5 (by decide) (by decide +kernel) rfl rfl ?_
        refine z_iconst (pc' := 26) X dX6_findSorts_25 rfl ?_
        refine z_iload_n (pc' := 27) X dX6_findSorts_26 rfl 1 rfl rfl ?_
        refine z_imul (pc' := 28) X dX6_findSorts_27 rfl ?_
        refine z_iconst (pc' := 29) X dX6_findSorts_28 rfl ?_
        refine z_iadd (pc' := 30) X dX6_findSorts_29 rfl ?_
        refine z_iald (pc' := 31) (f := u1 5) (n := 60) X dX6_findSorts_30 rfl 3 rfl (by decide) (by omega) ?_
        refine z_callPI (pc' := 34) (S := Unit) (As := [.int (jI (u1 5 ((5 * k) + 1)))]) (rest := []) X dX6_findSorts_31 rfl (kX6_ticksOf l D E (u1 5 ((5 * k) + 1))  (by omega)) (va_cwS 1 X.1.2.2.2.2 gX6_findSorts_X6_ticksOf rfl rfl rfl (by decide +kernel) ⟨Nat.le_of_ble_eq_true rfl, Nat.le_of_ble_eq_true rfl⟩) rfl rfl (Nat.le_of_ble_eq_true rfl) (fun r31 u31 hp31 => ?_)
        replace hp31 := hp31.symm; subst hp31
        refine z_i2l (pc' := 35) X dX6_findSorts_34 rfl (by omega) ?_
        refine z_lstore_n (pc' := 36) (lv' := [(3, .long (jL (tk (u1 5 ((5 * k) + 1))))), (2, .int (jI (u1 5 ((5 * k) + 2)))), (1, .int (jI k)), (0, .ref (q 0))]) X dX6_findSorts_35 rfl rfl (by decide) rfl ?_
        refine z_aload_n (pc' := 37) X dX6_findSorts_36 rfl 3 rfl rfl ?_
        refine z_get (pc' := 40) (C := RX6) (ref := "PivotBeatsModel") (T := TX6) (N := 19) (v := .ref (q 5)) X dX6_findSorts_37 rfl hin6 0 rfl rfl 5 (by decide) (by decide +kernel) rfl rfl ?_
        refine z_iconst (pc' := 41) X dX6_findSorts_40 rfl ?_
        refine z_iload_n (pc' := 42) X dX6_findSorts_41 rfl 2 rfl rfl ?_
        refine z_imul (pc' := 43) X dX6_findSorts_42 rfl ?_
        refine z_iconst (pc' := 44) X dX6_findSorts_43 rfl ?_
        refine z_iadd (pc' := 45) X dX6_findSorts_44 rfl ?_
        refine z_iald (pc' := 46) (f := u1 5) (n := 60) X dX6_findSorts_45 rfl 3 rfl (by decide) (by omega) ?_
        refine z_callPI (pc' := 49) (S := Unit) (As := [.int (jI (u1 5 ((5 * k) + 3)))]) (rest := []) X dX6_findSorts_46 rfl (kX6_ticksOf l D E (u1 5 ((5 * k) + 3))  (by omega)) (va_cwS 1 X.1.2.2.2.2 gX6_findSorts_X6_ticksOf rfl rfl rfl (by decide +kernel) ⟨Nat.le_of_ble_eq_true rfl, Nat.le_of_ble_eq_true rfl⟩) rfl rfl (Nat.le_of_ble_eq_true rfl) (fun r46 u46 hp46 => ?_)
        replace hp46 := hp46.symm; subst hp46
        refine z_i2l (pc' := 50) X dX6_findSorts_49 rfl (by omega) ?_
        refine z_lstore (pc' := 52) (lv' := [(5, .long (jL (tk (u1 5 ((5 * k) + 3))))), (3, .long (jL (tk (u1 5 ((5 * k) + 1))))), (2, .int (jI (u1 5 ((5 * k) + 2)))), (1, .int (jI k)), (0, .ref (q 0))]) X dX6_findSorts_50 rfl (by decide) rfl ?_
        refine z_aload_n (pc' := 53) X dX6_findSorts_52 rfl 4 rfl rfl ?_
        refine z_aload_n (pc' := 54) X dX6_findSorts_53 rfl 4 rfl rfl ?_
        refine z_get (pc' := 57) (C := RX6) (ref := "PivotBeatsModel") (T := TX6) (N := 19) (v := .ref (q 5)) X dX6_findSorts_54 rfl hin6 0 rfl rfl 5 (by decide) (by decide +kernel) rfl rfl ?_
        refine z_iconst (pc' := 58) X dX6_findSorts_57 rfl ?_
        refine z_iload_n (pc' := 59) X dX6_findSorts_58 rfl 3 rfl rfl ?_
        refine z_imul (pc' := 60) X dX6_findSorts_59 rfl ?_
        refine z_iald (pc' := 61) (f := u1 5) (n := 60) X dX6_findSorts_60 rfl 3 rfl (by decide) (by omega) ?_
        refine z_iload_n (pc' := 62) X dX6_findSorts_61 rfl 3 rfl rfl ?_
        refine z_callVV (pc' := 65) (S := St) (As := [.int (jI (u1 5 (5 * k))), .int (jI k)]) (rest := []) X dX6_findSorts_62 rfl (kX6_spread l D E q u1 (u1 5 (5 * k)) k  (w1) (by omega) (by omega) (h3)) (cwV 2 X.1.2.2.2.2 gX6_findSorts_X6_spread rfl rfl rfl (by decide +kernel) ⟨Nat.le_of_ble_eq_true rfl, Nat.le_of_ble_eq_true rfl⟩) 0 rfl rfl rfl rfl (Nat.le_of_ble_eq_true rfl) (fun u62 hp62 => ?_)
        obtain ⟨hq62, hs62, hd62⟩ := hp62
        have nA := SPI_v hd62.1 (hq62.wf w1).tok (by rw [hq62.2.2.2.2.1]; omega) (show 0 ≤ u1 5 (5 * k) ∧ u1 5 (5 * k) < 7 by omega) (x := u1 5 (5 * k + 2)) (by omega)
        refine z_aload_n (pc' := 66) X dX6_findSorts_65 rfl 4 rfl rfl ?_
        refine z_get (pc' := 69) (C := RX6) (ref := "PivotBeatsModel") (T := TX6) (N := 19) (v := .ref (q 6)) X dX6_findSorts_66 rfl hin6 0 rfl rfl 6 (by decide) (by decide +kernel) rfl rfl ?_
        refine z_iload_n (pc' := 70) X dX6_findSorts_69 rfl 3 rfl rfl ?_
        refine z_aload_n (pc' := 71) X dX6_findSorts_70 rfl 4 rfl rfl ?_
        refine z_get (pc' := 74) (C := RX6) (ref := "PivotBeatsModel") (T := TX6) (N := 19) (v := .ref (q 7)) X dX6_findSorts_71 rfl hin6 0 rfl rfl 7 (by decide) (by decide +kernel) rfl rfl ?_
        refine z_iload_n (pc' := 75) X dX6_findSorts_74 rfl 2 rfl rfl ?_
        refine z_lald (pc' := 76) (f := u62 7) (n := 7) X dX6_findSorts_75 rfl 5 rfl (by decide) (by omega) ?_
        refine z_lconst (pc' := 77) (x := 0) X dX6_findSorts_76 rfl rfl ?_
        refine z_lcmp_ne (tgt := 85) (pc' := 81) X dX6_findSorts_77 (pc1 := 78) rfl dX6_findSorts_78 (by decide) rfl (by omega) (fun h77 => ?_) (fun h77 => ?_)
        · refine z_aload_n (pc' := 86) X dX6_findSorts_85 rfl 4 rfl rfl ?_
          refine z_get (pc' := 89) (C := RX6) (ref := "PivotBeatsModel") (T := TX6) (N := 19) (v := .ref (q 7)) X dX6_findSorts_86 rfl hin6 0 rfl rfl 7 (by decide) (by decide +kernel) rfl rfl ?_
          refine z_iload_n (pc' := 90) X dX6_findSorts_89 rfl 2 rfl rfl ?_
          refine z_lald (pc' := 91) (f := u62 7) (n := 7) X dX6_findSorts_90 rfl 5 rfl (by decide) (by omega) ?_
          refine z_lload_n (pc' := 92) X dX6_findSorts_91 rfl 1 rfl rfl ?_
          refine z_lmul (pc' := 93) X dX6_findSorts_92 rfl ?_
          refine z_aload_n (pc' := 94) X dX6_findSorts_93 rfl 4 rfl rfl ?_
          refine z_get (pc' := 97) (C := RX6) (ref := "PivotBeatsModel") (T := TX6) (N := 19) (v := .ref (q 8)) X dX6_findSorts_94 rfl hin6 0 rfl rfl 8 (by decide) (by decide +kernel) rfl rfl ?_
          refine z_iload_n (pc' := 98) X dX6_findSorts_97 rfl 2 rfl rfl ?_
          refine z_lald (pc' := 99) (f := u62 8) (n := 7) X dX6_findSorts_98 rfl 6 rfl (by decide) (by omega) ?_
          refine z_lload (pc' := 101) X dX6_findSorts_99 rfl 0 rfl ?_
          refine z_lmul (pc' := 102) X dX6_findSorts_101 rfl ?_
          refine z_lcmp_ne (tgt := 110) (pc' := 106) X dX6_findSorts_102 (pc1 := 103) rfl dX6_findSorts_103 (by decide) rfl (by (have := fs_rng nA h77 ta tb; omega)) (fun h102 => ?_) (fun h102 => ?_)
          · refine z_iconst (pc' := 111) X dX6_findSorts_110 rfl ?_
            refine z_iast (pc' := 112) (f := u62 6) (n := 12) (w' := MW E q (up u62 6 k 2)) X dX6_findSorts_111 rfl 4 rfl (by decide) (by omega) rfl ?_
            refine z_iinc (pc' := 115) (lv' := [(1, .int (jI (k + 1))), (5, .long (jL (tk (u1 5 ((5 * k) + 3))))), (3, .long (jL (tk (u1 5 ((5 * k) + 1))))), (2, .int (jI (u1 5 ((5 * k) + 2)))), (0, .ref (q 0))]) X dX6_findSorts_112 rfl 3 rfl (by decide) rfl ?_
            refine z_goto (tgt := 2) X dX6_findSorts_115 (by decide) ?_
            refine z_lv (lv' := [(1, .int (jI (k + 1))), (0, .ref (q 0))]) [0, 4] rfl ?_
            exact ih2 (k + 1) (up u62 6 k 2)  (by first | exact fs_step w1 h1 (by omega) h3 hq62 hs62 hd62 (Or.inl ⟨h77, rfl⟩) | exact fs_step w1 h1 (by omega) h3 hq62 hs62 hd62 (Or.inr (Or.inl ⟨h77, h102, rfl⟩)) | exact fs_step w1 h1 (by omega) h3 hq62 hs62 hd62 (Or.inr (Or.inr ⟨h77, h102, rfl⟩))) (by omega)
          · refine z_iconst (pc' := 107) X dX6_findSorts_106 rfl ?_
            refine z_goto (tgt := 111) X dX6_findSorts_107 (by decide) ?_
            refine z_iast (pc' := 112) (f := u62 6) (n := 12) (w' := MW E q (up u62 6 k 1)) X dX6_findSorts_111 rfl 4 rfl (by decide) (by omega) rfl ?_
            refine z_iinc (pc' := 115) (lv' := [(1, .int (jI (k + 1))), (5, .long (jL (tk (u1 5 ((5 * k) + 3))))), (3, .long (jL (tk (u1 5 ((5 * k) + 1))))), (2, .int (jI (u1 5 ((5 * k) + 2)))), (0, .ref (q 0))]) X dX6_findSorts_112 rfl 3 rfl (by decide) rfl ?_
            refine z_goto (tgt := 2) X dX6_findSorts_115 (by decide) ?_
            refine z_lv (lv' := [(1, .int (jI (k + 1))), (0, .ref (q 0))]) [0, 4] rfl ?_
            exact ih2 (k + 1) (up u62 6 k 1)  (by first | exact fs_step w1 h1 (by omega) h3 hq62 hs62 hd62 (Or.inl ⟨h77, rfl⟩) | exact fs_step w1 h1 (by omega) h3 hq62 hs62 hd62 (Or.inr (Or.inl ⟨h77, h102, rfl⟩)) | exact fs_step w1 h1 (by omega) h3 hq62 hs62 hd62 (Or.inr (Or.inr ⟨h77, h102, rfl⟩))) (by omega)
        · refine z_iconst (pc' := 82) X dX6_findSorts_81 rfl ?_
          refine z_goto (tgt := 111) X dX6_findSorts_82 (by decide) ?_
          refine z_iast (pc' := 112) (f := u62 6) (n := 12) (w' := MW E q (up u62 6 k 0)) X dX6_findSorts_111 rfl 4 rfl (by decide) (by omega) rfl ?_
          refine z_iinc (pc' := 115) (lv' := [(1, .int (jI (k + 1))), (5, .long (jL (tk (u1 5 ((5 * k) + 3))))), (3, .long (jL (tk (u1 5 ((5 * k) + 1))))), (2, .int (jI (u1 5 ((5 * k) + 2)))), (0, .ref (q 0))]) X dX6_findSorts_112 rfl 3 rfl (by decide) rfl ?_
          refine z_goto (tgt := 2) X dX6_findSorts_115 (by decide) ?_
          refine z_lv (lv' := [(1, .int (jI (k + 1))), (0, .ref (q 0))]) [0, 4] rfl ?_
          exact ih2 (k + 1) (up u62 6 k 0)  (by first | exact fs_step w1 h1 (by omega) h3 hq62 hs62 hd62 (Or.inl ⟨h77, rfl⟩) | exact fs_step w1 h1 (by omega) h3 hq62 hs62 hd62 (Or.inr (Or.inl ⟨h77, h102, rfl⟩)) | exact fs_step w1 h1 (by omega) h3 hq62 hs62 hd62 (Or.inr (Or.inr ⟨h77, h102, rfl⟩))) (by omega)
  exact lp2 _ 0 σ  (⟨eqM.rf σ, by omega, fun k h => by omega⟩) (Nat.lt_succ_self _)
set_option maxHeartbeats 4000000 in
set_option maxRecDepth 100000 in
theorem kX6_spreadAll (l : Launch) (D : va_G) (E : Nat → Nat) (q : Nat → Nat) (σ : St) (from_ : Int) (hwf : WfM σ) (hf : 0 ≤ from_ ∧ from_ < 7) : CtV l D E yX6_spreadAll wsX6_spreadAll ({ frames := 4, cells := 0, slots := 0, locals := 118 } : Room) [.ref (q 0), .int (jI from_)] (MW E q σ) (MW E q) (fun (uu : St) => eqM uu σ ∧ srt uu (σ 4 0) ∧ SPD uu (σ 4 0) from_) := by
  refine mk_V (cc := cX6_spreadAll) (maxL := 2) (ret := none) (by decide) rfl (Nat.le_of_ble_eq_true rfl) ?_
  intro p e s m args below meth c A X hret
  have hin6 : ∀ x ∈ u_ws RX6 TX6 19, x ∈ wsX6_spreadAll := fun _ h => List.mem_cons_of_mem _ (List.mem_append_right _ h)
  refine z_lv (lv' := [(0, .ref (q 0)), (1, .int (jI from_))]) [0, 1] rfl ?_
  obtain ⟨n0, n3, n4, n13⟩ := hwf.n
  refine z_aload_n (pc' := 1) X dX6_spreadAll_0 rfl 0 rfl rfl ?_
  refine z_callVV (pc' := 4) (S := St) (As := []) (rest := []) X dX6_spreadAll_1 rfl (kX6_findSorts l D E q σ   (hwf)) (cwV 0 X.1.2.2.2.2 gX6_spreadAll_X6_findSorts rfl rfl rfl (by decide +kernel) ⟨Nat.le_of_ble_eq_true rfl, Nat.le_of_ble_eq_true rfl⟩) 0 rfl rfl rfl rfl (Nat.le_of_ble_eq_true rfl) (fun u1 hp1 => ?_)
  obtain ⟨hq1, hs1⟩ := hp1
  refine z_aload_n (pc' := 5) X dX6_spreadAll_4 rfl 0 rfl rfl ?_
  refine z_iload_n (pc' := 6) X dX6_spreadAll_5 rfl 1 rfl rfl ?_
  have w1 := hq1.wf hwf
  have e4 : u1 4 0 = σ 4 0 := by rw [hq1.2.2.2.2.1]
  skip
  refine z_aload_n (pc' := 7) X dX6_spreadAll_6 rfl 0 rfl rfl ?_
  refine z_get (pc' := 10) (C := RX6) (ref := "PivotBeatsModel") (T := TX6) (N := 19) (v := .int (jI (u1 4 0))) X dX6_spreadAll_7 rfl hin6 0 rfl rfl 4 (by decide) (by decide +kernel) rfl rfl ?_
  refine z_callVV (pc' := 13) (S := St) (As := [.int (jI from_), .int (jI (u1 4 0))]) (rest := []) X dX6_spreadAll_10 rfl (kX6_spread l D E q u1 from_ (u1 4 0)  (w1) (hf) (by omega) (by rw [e4]; exact hs1)) (cwV 2 X.1.2.2.2.2 gX6_spreadAll_X6_spread rfl rfl rfl (by decide +kernel) ⟨Nat.le_of_ble_eq_true rfl, Nat.le_of_ble_eq_true rfl⟩) 0 rfl rfl rfl rfl (Nat.le_of_ble_eq_true rfl) (fun u10 hp10 => ?_)
  obtain ⟨hq10, hs10, hd10⟩ := hp10
  exact z_vret (post := (fun (uu : St) => eqM uu σ ∧ srt uu (σ 4 0) ∧ SPD uu (σ 4 0) from_)) X dX6_spreadAll_13 hret u10 (⟨hq10.tr hq1, sa_srt hq10 hs10 hs1, by rw [← e4]; exact hd10⟩)
set_option maxHeartbeats 4000000 in
set_option maxRecDepth 100000 in
theorem kX6_placeOf (l : Launch) (D : va_G) (E : Nat → Nat) (q : Nat → Nat) (σ : St) (m_ : Int) (hwf : WfM σ) (hr : (-2147483648 ≤ m_ ∧ m_ < 2147483648)) : CtI l D E yX6_placeOf wsX6_placeOf ({ frames := 0, cells := 0, slots := 0, locals := 0 } : Room) [.ref (q 0), .int (jI m_)] (MW E q σ) (MW E q) (fun (rv : Int) (uu : St) => σ = uu ∧ rv = ixF (σ 14) m_ (σ 13 0).toNat) := by
  refine mk_I (cc := cX6_placeOf) (maxL := 3) (ret := some .int) (by decide) rfl (Nat.le_of_ble_eq_true rfl) ?_
  intro p e s m args below meth c A X hret
  have hin6 : ∀ x ∈ u_ws RX6 TX6 19, x ∈ wsX6_placeOf := fun _ h => List.mem_cons_of_mem _ (List.mem_append_right _ h)
  refine z_lv (lv' := [(0, .ref (q 0)), (1, .int (jI m_))]) [0, 1] rfl ?_
  obtain ⟨n0, n3, n4, n13⟩ := hwf.n
  refine z_iconst (pc' := 1) X dX6_placeOf_0 rfl ?_
  refine z_istore_n (pc' := 2) (lv' := [(2, .int (jI 0)), (0, .ref (q 0)), (1, .int (jI m_))]) X dX6_placeOf_1 rfl rfl (by decide) rfl ?_
  have lp2 : ∀ (nF : Nat) (k : Int) , ((0 ≤ k ∧ k ≤ σ 13 0) ∧ ∀ j, 0 ≤ j → j < k → ¬ σ 14 j = m_) → ((16 - k).toNat : Nat) < nF → J p l e (headSpec wsX6_placeOf ({ frames := 0, cells := 0, slots := 0, locals := 0 } : Room)).room s m args below meth c D A 3 (MQ below (va_Qi (fun r u => ∃ x, r = jI x ∧ (fun (rv : Int) (uu : St) => σ = uu ∧ rv = ixF (σ 14) m_ (σ 13 0).toNat) x u) (Bw D (MW E q) A) A) args s 0 0 A) 2 [(2, .int (jI k)), (0, .ref (q 0)), (1, .int (jI m_))] [] (MW E q σ) := by
    intro nF
    induction nF with
    | zero => intro k  hI hn; exact absurd hn (Nat.not_lt_zero _)
    | succ nF ih2 =>
      intro k  hI hn
      obtain ⟨h1, h2⟩ := hI
      refine z_iload_n (pc' := 3) X dX6_placeOf_2 rfl 0 rfl rfl ?_
      refine z_aload_n (pc' := 4) X dX6_placeOf_3 rfl 1 rfl rfl ?_
      refine z_get (pc' := 7) (C := RX6) (ref := "PivotBeatsModel") (T := TX6) (N := 19) (v := .int (jI (σ 13 0))) X dX6_placeOf_4 rfl hin6 0 rfl rfl 13 (by decide) (by decide +kernel) rfl rfl ?_
      refine z_icmp_ge (tgt := 28) (pc' := 10) X dX6_placeOf_7 (by decide) rfl (by omega) (fun h7 => ?_) (fun h7 => ?_)
      · refine z_bipush (pc' := 30) X dX6_placeOf_28 rfl rfl ?_
        exact z_iret (post := (fun (rv : Int) (uu : St) => σ = uu ∧ rv = ixF (σ 14) m_ (σ 13 0).toNat)) X dX6_placeOf_30 hret σ (⟨rfl, (ixF_no _ (fun j j0 j1 => h2 j j0 (by omega))).symm⟩)
      · have hm := hwf.2.2.2.2.2.2.2.1 k (by omega) (by omega)
        refine z_aload_n (pc' := 11) X dX6_placeOf_10 rfl 1 rfl rfl ?_
        refine z_get (pc' := 14) (C := RX6) (ref := "PivotBeatsModel") (T := TX6) (N := 19) (v := .ref (q 14)) X dX6_placeOf_11 rfl hin6 0 rfl rfl 14 (by decide) (by decide +kernel) rfl rfl ?_
        refine z_iload_n (pc' := 15) X dX6_placeOf_14 rfl 0 rfl rfl ?_
        refine z_iald (pc' := 16) (f := σ 14) (n := 16) X dX6_placeOf_15 rfl 10 rfl (by decide) (by omega) ?_
        refine z_iload_n (pc' := 17) X dX6_placeOf_16 rfl 2 rfl rfl ?_
        refine z_icmp_ne (tgt := 22) (pc' := 20) X dX6_placeOf_17 (by decide) rfl (by omega) (fun h17 => ?_) (fun h17 => ?_)
        · refine z_iinc (pc' := 25) (lv' := [(2, .int (jI (k + 1))), (0, .ref (q 0)), (1, .int (jI m_))]) X dX6_placeOf_22 rfl 0 rfl (by decide) rfl ?_
          refine z_goto (tgt := 2) X dX6_placeOf_25 (by decide) ?_
          exact ih2 (k + 1)  (⟨by omega, fun j j0 j1 => pl_step h2 h17 j j0 j1⟩) (by omega)
        · refine z_iload_n (pc' := 21) X dX6_placeOf_20 rfl 0 rfl rfl ?_
          exact z_iret (post := (fun (rv : Int) (uu : St) => σ = uu ∧ rv = ixF (σ 14) m_ (σ 13 0).toNat)) X dX6_placeOf_21 hret σ (⟨rfl, (ixF_is (by omega) (by omega) h17 h2).symm⟩)
  exact lp2 _ 0  (⟨by omega, fun j h1 h2 => by omega⟩) (Nat.lt_succ_self _)
set_option maxHeartbeats 4000000 in
set_option maxRecDepth 100000 in
theorem kX6_isPinHeld (l : Launch) (D : va_G) (E : Nat → Nat) (q : Nat → Nat) (σ : St) (s_ : Int) (hwf : WfM σ) (hs : 0 ≤ s_ ∧ s_ < σ 0 0) : CtI l D E yX6_isPinHeld wsX6_isPinHeld ({ frames := 1, cells := 0, slots := 0, locals := 22 } : Room) [.ref (q 0), .int (jI s_)] (MW E q σ) (MW E q) (fun (rv : Int) (uu : St) => σ = uu ∧ (rv = pnH (σ 13 0) (σ 14) (σ 2 s_))) := by
  refine mk_I (cc := cX6_isPinHeld) (maxL := 2) (ret := some .boolean) (by decide) rfl (Nat.le_of_ble_eq_true rfl) ?_
  intro p e s m args below meth c A X hret
  have hin6 : ∀ x ∈ u_ws RX6 TX6 19, x ∈ wsX6_isPinHeld := fun _ h => List.mem_cons_of_mem _ (List.mem_append_right _ h)
  refine z_lv (lv' := [(0, .ref (q 0)), (1, .int (jI s_))]) [0, 1] rfl ?_
  obtain ⟨n0, n3, n4, n13⟩ := hwf.n
  have hp := hwf.2.2.1 s_ hs.1 hs.2
  have hi := ixF_cases (σ 14) (σ 2 s_) (σ 13 0).toNat
  refine z_aload_n (pc' := 1) X dX6_isPinHeld_0 rfl 0 rfl rfl ?_
  refine z_get (pc' := 4) (C := RX6) (ref := "PivotBeatsModel") (T := TX6) (N := 19) (v := .ref (q 2)) X dX6_isPinHeld_1 rfl hin6 0 rfl rfl 2 (by decide) (by decide +kernel) rfl rfl ?_
  refine z_iload_n (pc' := 5) X dX6_isPinHeld_4 rfl 1 rfl rfl ?_
  refine z_iald (pc' := 6) (f := σ 2) (n := 7) X dX6_isPinHeld_5 rfl 2 rfl (by decide) (by omega) ?_
  refine z_bipush (pc' := 8) X dX6_isPinHeld_6 rfl rfl ?_
  refine z_icmp_eq (tgt := 30) (pc' := 11) X dX6_isPinHeld_8 (by decide) rfl (by omega) (fun h8 => ?_) (fun h8 => ?_)
  · refine z_iconst (pc' := 31) X dX6_isPinHeld_30 rfl ?_
    exact z_zret (post := (fun (rv : Int) (uu : St) => σ = uu ∧ (rv = pnH (σ 13 0) (σ 14) (σ 2 s_)))) X dX6_isPinHeld_31 hret σ (by first | decide | omega) (⟨rfl, by unfold pnH; first | (rw [if_pos h8]; done) | (rw [if_neg h8, if_pos h23]; done) | (rw [if_neg h8, if_neg h23]; done)⟩)
  · refine z_aload_n (pc' := 12) X dX6_isPinHeld_11 rfl 0 rfl rfl ?_
    refine z_aload_n (pc' := 13) X dX6_isPinHeld_12 rfl 0 rfl rfl ?_
    refine z_get (pc' := 16) (C := RX6) (ref := "PivotBeatsModel") (T := TX6) (N := 19) (v := .ref (q 2)) X dX6_isPinHeld_13 rfl hin6 0 rfl rfl 2 (by decide) (by decide +kernel) rfl rfl ?_
    refine z_iload_n (pc' := 17) X dX6_isPinHeld_16 rfl 1 rfl rfl ?_
    refine z_iald (pc' := 18) (f := σ 2) (n := 7) X dX6_isPinHeld_17 rfl 2 rfl (by decide) (by omega) ?_
    refine z_callVI (pc' := 21) (S := St) (As := [.int (jI (σ 2 s_))]) (rest := []) X dX6_isPinHeld_18 rfl (kX6_placeOf l D E q σ (σ 2 s_)  (hwf) (by omega)) (cwV 1 X.1.2.2.2.2 gX6_isPinHeld_X6_placeOf rfl rfl rfl (by decide +kernel) ⟨Nat.le_of_ble_eq_true rfl, Nat.le_of_ble_eq_true rfl⟩) 0 rfl rfl rfl rfl (Nat.le_of_ble_eq_true rfl) (fun r18 u18 hp18 => ?_)
    obtain ⟨rfl, hp18⟩ := hp18; replace hp18 := hp18.symm; subst hp18
    refine z_bipush (pc' := 23) X dX6_isPinHeld_21 rfl rfl ?_
    refine z_icmp_eq (tgt := 30) (pc' := 26) X dX6_isPinHeld_23 (by decide) rfl (by (rcases hi with q | q <;> omega)) (fun h23 => ?_) (fun h23 => ?_)
    · refine z_iconst (pc' := 31) X dX6_isPinHeld_30 rfl ?_
      exact z_zret (post := (fun (rv : Int) (uu : St) => σ = uu ∧ (rv = pnH (σ 13 0) (σ 14) (σ 2 s_)))) X dX6_isPinHeld_31 hret σ (by first | decide | omega) (⟨rfl, by unfold pnH; first | (rw [if_pos h8]; done) | (rw [if_neg h8, if_pos h23]; done) | (rw [if_neg h8, if_neg h23]; done)⟩)
    · refine z_iconst (pc' := 27) X dX6_isPinHeld_26 rfl ?_
      refine z_goto (tgt := 31) X dX6_isPinHeld_27 (by decide) ?_
      exact z_zret (post := (fun (rv : Int) (uu : St) => σ = uu ∧ (rv = pnH (σ 13 0) (σ 14) (σ 2 s_)))) X dX6_isPinHeld_31 hret σ (by first | decide | omega) (⟨rfl, by unfold pnH; first | (rw [if_pos h8]; done) | (rw [if_neg h8, if_pos h23]; done) | (rw [if_neg h8, if_neg h23]; done)⟩)
set_option maxHeartbeats 4000000 in
set_option maxRecDepth 100000 in
theorem kX6_tiesAt (l : Launch) (D : va_G) (E : Nat → Nat) (q : Nat → Nat) (σ : St) (s_ : Int) (hwf : WfM σ) (hr : (-2147483648 ≤ s_ ∧ s_ < 2147483648)) : CtI l D E yX6_tiesAt wsX6_tiesAt ({ frames := 0, cells := 0, slots := 0, locals := 0 } : Room) [.ref (q 0), .int (jI s_)] (MW E q σ) (MW E q) (fun (rv : Int) (uu : St) => σ = uu ∧ rv = tAt (mA σ) (mB σ) (σ 4 0) s_) := by
  refine mk_I (cc := cX6_tiesAt) (maxL := 4) (ret := some .int) (by decide) rfl (Nat.le_of_ble_eq_true rfl) ?_
  intro p e s m args below meth c A X hret
  have hin6 : ∀ x ∈ u_ws RX6 TX6 19, x ∈ wsX6_tiesAt := fun _ h => List.mem_cons_of_mem _ (List.mem_append_right _ h)
  refine z_lv (lv' := [(0, .ref (q 0)), (1, .int (jI s_))]) [0, 1] rfl ?_
  obtain ⟨n0, n3, n4, n13⟩ := hwf.n
  refine z_iconst (pc' := 1) X dX6_tiesAt_0 rfl ?_
  refine z_istore_n (pc' := 2) (lv' := [(2, .int (jI 0)), (0, .ref (q 0)), (1, .int (jI s_))]) X dX6_tiesAt_1 rfl rfl (by decide) rfl ?_
  refine z_iconst (pc' := 3) X dX6_tiesAt_2 rfl ?_
  refine z_istore_n (pc' := 4) (lv' := [(3, .int (jI 0)), (2, .int (jI 0)), (0, .ref (q 0)), (1, .int (jI s_))]) X dX6_tiesAt_3 rfl rfl (by decide) rfl ?_
  have lp4 : ∀ (nF : Nat) (k : Int) (n_ : Int) , ((0 ≤ k ∧ k ≤ σ 4 0) ∧ n_ = smI (fun k => if mA σ k = s_ then 1 else if mB σ k = s_ then 1 else 0) k.toNat ∧ (0 ≤ n_ ∧ n_ ≤ k)) → ((12 - k).toNat : Nat) < nF → J p l e (headSpec wsX6_tiesAt ({ frames := 0, cells := 0, slots := 0, locals := 0 } : Room)).room s m args below meth c D A 4 (MQ below (va_Qi (fun r u => ∃ x, r = jI x ∧ (fun (rv : Int) (uu : St) => σ = uu ∧ rv = tAt (mA σ) (mB σ) (σ 4 0) s_) x u) (Bw D (MW E q) A) A) args s 0 0 A) 4 [(3, .int (jI k)), (2, .int (jI n_)), (0, .ref (q 0)), (1, .int (jI s_))] [] (MW E q σ) := by
    intro nF
    induction nF with
    | zero => intro k n_  hI hn; exact absurd hn (Nat.not_lt_zero _)
    | succ nF ih4 =>
      intro k n_  hI hn
      obtain ⟨h1, h2, h3⟩ := hI
      refine z_iload_n (pc' := 5) X dX6_tiesAt_4 rfl 0 rfl rfl ?_
      refine z_aload_n (pc' := 6) X dX6_tiesAt_5 rfl 2 rfl rfl ?_
      refine z_get (pc' := 9) (C := RX6) (ref := "PivotBeatsModel") (T := TX6) (N := 19) (v := .int (jI (σ 4 0))) X dX6_tiesAt_6 rfl hin6 0 rfl rfl 4 (by decide) (by decide +kernel) rfl rfl ?_
      refine z_icmp_ge (tgt := 52) (pc' := 12) X dX6_tiesAt_9 (by decide) rfl (by omega) (fun h9 => ?_) (fun h9 => ?_)
      · refine z_iload_n (pc' := 53) X dX6_tiesAt_52 rfl 1 rfl rfl ?_
        exact z_iret (post := (fun (rv : Int) (uu : St) => σ = uu ∧ rv = tAt (mA σ) (mB σ) (σ 4 0) s_)) X dX6_tiesAt_53 hret σ (⟨rfl, by rw [h2]; unfold tAt; rw [show k = σ 4 0 by omega]⟩)
      · have ht := hwf.tie (k := k) (by omega) (by omega)
        refine z_iload_n (pc' := 13) X dX6_tiesAt_12 rfl 1 rfl rfl ?_
        refine z_aload_n (pc' := 14) X dX6_tiesAt_13 rfl 2 rfl rfl ?_
        refine z_get (pc' := 17) (C := RX6) (ref := "PivotBeatsModel") (T := TX6) (N := 19) (v := .ref (q 5)) X dX6_tiesAt_14 rfl hin6 0 rfl rfl 5 (by decide) (by decide +kernel) rfl rfl ?_
        refine z_iconst (pc' := 18) X dX6_tiesAt_17 rfl ?_
        refine z_iload_n (pc' := 19) X dX6_tiesAt_18 rfl 0 rfl rfl ?_
        refine z_imul (pc' := 20) X dX6_tiesAt_19 rfl ?_
        refine z_iald (pc' := 21) (f := σ 5) (n := 60) X dX6_tiesAt_20 rfl 3 rfl (by decide) (by omega) ?_
        refine z_iload_n (pc' := 22) X dX6_tiesAt_21 rfl 3 rfl rfl ?_
        refine z_icmp_eq (tgt := 39) (pc' := 25) X dX6_tiesAt_22 (by decide) rfl (by omega) (fun h22 => ?_) (fun h22 => ?_)
        · refine z_iconst (pc' := 40) X dX6_tiesAt_39 rfl ?_
          refine z_goto (tgt := 44) X dX6_tiesAt_40 (by decide) ?_
          refine z_iadd (pc' := 45) X dX6_tiesAt_44 rfl ?_
          refine z_istore_n (pc' := 46) (lv' := [(2, .int (jI (n_ + 1))), (3, .int (jI k)), (0, .ref (q 0)), (1, .int (jI s_))]) X dX6_tiesAt_45 rfl rfl (by decide) rfl ?_
          refine z_iinc (pc' := 49) (lv' := [(3, .int (jI (k + 1))), (2, .int (jI (n_ + 1))), (0, .ref (q 0)), (1, .int (jI s_))]) X dX6_tiesAt_46 rfl 1 rfl (by decide) rfl ?_
          refine z_goto (tgt := 4) X dX6_tiesAt_49 (by decide) ?_
          exact ih4 (k + 1) (n_ + 1)  (⟨by omega, by rw [smI_succ _ h1.1, ← h2]; unfold mA mB; first | (rw [if_pos h22]; done) | (rw [if_neg h22, if_pos h36]; done) | (rw [if_neg h22, if_neg h36]; done), by omega⟩) (by omega)
        · refine z_aload_n (pc' := 26) X dX6_tiesAt_25 rfl 2 rfl rfl ?_
          refine z_get (pc' := 29) (C := RX6) (ref := "PivotBeatsModel") (T := TX6) (N := 19) (v := .ref (q 5)) X dX6_tiesAt_26 rfl hin6 0 rfl rfl 5 (by decide) (by decide +kernel) rfl rfl ?_
          refine z_iconst (pc' := 30) X dX6_tiesAt_29 rfl ?_
          refine z_iload_n (pc' := 31) X dX6_tiesAt_30 rfl 0 rfl rfl ?_
          refine z_imul (pc' := 32) X dX6_tiesAt_31 rfl ?_
          refine z_iconst (pc' := 33) X dX6_tiesAt_32 rfl ?_
          refine z_iadd (pc' := 34) X dX6_tiesAt_33 rfl ?_
          refine z_iald (pc' := 35) (f := σ 5) (n := 60) X dX6_tiesAt_34 rfl 3 rfl (by decide) (by omega) ?_
          refine z_iload_n (pc' := 36) X dX6_tiesAt_35 rfl 3 rfl rfl ?_
          refine z_icmp_ne (tgt := 43) (pc' := 39) X dX6_tiesAt_36 (by decide) rfl (by omega) (fun h36 => ?_) (fun h36 => ?_)
          · refine z_iconst (pc' := 44) X dX6_tiesAt_43 rfl ?_
            refine z_iadd (pc' := 45) X dX6_tiesAt_44 rfl ?_
            refine z_istore_n (pc' := 46) (lv' := [(2, .int (jI (n_ + 0))), (3, .int (jI k)), (0, .ref (q 0)), (1, .int (jI s_))]) X dX6_tiesAt_45 rfl rfl (by decide) rfl ?_
            refine z_iinc (pc' := 49) (lv' := [(3, .int (jI (k + 1))), (2, .int (jI (n_ + 0))), (0, .ref (q 0)), (1, .int (jI s_))]) X dX6_tiesAt_46 rfl 1 rfl (by decide) rfl ?_
            refine z_goto (tgt := 4) X dX6_tiesAt_49 (by decide) ?_
            exact ih4 (k + 1) (n_ + 0)  (⟨by omega, by rw [smI_succ _ h1.1, ← h2]; unfold mA mB; first | (rw [if_pos h22]; done) | (rw [if_neg h22, if_pos h36]; done) | (rw [if_neg h22, if_neg h36]; done), by omega⟩) (by omega)
          · refine z_iconst (pc' := 40) X dX6_tiesAt_39 rfl ?_
            refine z_goto (tgt := 44) X dX6_tiesAt_40 (by decide) ?_
            refine z_iadd (pc' := 45) X dX6_tiesAt_44 rfl ?_
            refine z_istore_n (pc' := 46) (lv' := [(2, .int (jI (n_ + 1))), (3, .int (jI k)), (0, .ref (q 0)), (1, .int (jI s_))]) X dX6_tiesAt_45 rfl rfl (by decide) rfl ?_
            refine z_iinc (pc' := 49) (lv' := [(3, .int (jI (k + 1))), (2, .int (jI (n_ + 1))), (0, .ref (q 0)), (1, .int (jI s_))]) X dX6_tiesAt_46 rfl 1 rfl (by decide) rfl ?_
            refine z_goto (tgt := 4) X dX6_tiesAt_49 (by decide) ?_
            exact ih4 (k + 1) (n_ + 1)  (⟨by omega, by rw [smI_succ _ h1.1, ← h2]; unfold mA mB; first | (rw [if_pos h22]; done) | (rw [if_neg h22, if_pos h36]; done) | (rw [if_neg h22, if_neg h36]; done), by omega⟩) (by omega)
  exact lp4 _ 0 0  (⟨by omega, rfl, by omega⟩) (Nat.lt_succ_self _)
set_option maxHeartbeats 4000000 in
set_option maxRecDepth 100000 in
theorem kX6_leastMet (l : Launch) (D : va_G) (E : Nat → Nat) (q : Nat → Nat) (σ : St) (f : Int) (hwf : WfM σ) (hd : SPD σ (σ 4 0) f) (hf : 0 ≤ f ∧ f < 7) : CtI l D E yX6_leastMet wsX6_leastMet ({ frames := 0, cells := 0, slots := 0, locals := 0 } : Room) [.ref (q 0)] (MW E q σ) (MW E q) (fun (rv : Int) (uu : St) => σ = uu ∧ rv = jS (mA σ) (mV σ) (mB σ) (mW σ) (σ 4 0).toNat 0 f) := by
  refine mk_I (cc := cX6_leastMet) (maxL := 3) (ret := some .int) (by decide) rfl (Nat.le_of_ble_eq_true rfl) ?_
  intro p e s m args below meth c A X hret
  have hin6 : ∀ x ∈ u_ws RX6 TX6 19, x ∈ wsX6_leastMet := fun _ h => List.mem_cons_of_mem _ (List.mem_append_right _ h)
  refine z_lv (lv' := [(0, .ref (q 0))]) [0] rfl ?_
  obtain ⟨n0, n3, n4, n13⟩ := hwf.n
  obtain ⟨hd1, hd2⟩ := hd
  have h10 := hd1.1
  have hm := hd1.2.2.2.2.2.1
  refine z_bipush (pc' := 2) X dX6_leastMet_0 rfl rfl ?_
  refine z_istore_n (pc' := 3) (lv' := [(1, .int (jI 7)), (0, .ref (q 0))]) X dX6_leastMet_2 rfl rfl (by decide) rfl ?_
  refine z_iconst (pc' := 4) X dX6_leastMet_3 rfl ?_
  refine z_istore_n (pc' := 5) (lv' := [(2, .int (jI 0)), (1, .int (jI 7)), (0, .ref (q 0))]) X dX6_leastMet_4 rfl rfl (by decide) rfl ?_
  have lp5 : ∀ (nF : Nat) (x : Int) (least : Int) , ((0 ≤ x ∧ x ≤ σ 10 0) ∧ (∀ i, 0 ≤ i → i < x → least ≤ σ 11 i) ∧ ((x = 0 ∧ least = 7) ∨ ∃ i, (0 ≤ i ∧ i < x) ∧ least = σ 11 i)) → ((7 - x).toNat : Nat) < nF → J p l e (headSpec wsX6_leastMet ({ frames := 0, cells := 0, slots := 0, locals := 0 } : Room)).room s m args below meth c D A 3 (MQ below (va_Qi (fun r u => ∃ x, r = jI x ∧ (fun (rv : Int) (uu : St) => σ = uu ∧ rv = jS (mA σ) (mV σ) (mB σ) (mW σ) (σ 4 0).toNat 0 f) x u) (Bw D (MW E q) A) A) args s 0 0 A) 5 [(2, .int (jI x)), (1, .int (jI least)), (0, .ref (q 0))] [] (MW E q σ) := by
    intro nF
    induction nF with
    | zero => intro x least  hI hn; exact absurd hn (Nat.not_lt_zero _)
    | succ nF ih5 =>
      intro x least  hI hn
      obtain ⟨h1, h2, h3⟩ := hI
      have hl : -9 ≤ least ∧ least ≤ 7 := lm_rng hm h1.2 h3
      refine z_iload_n (pc' := 6) X dX6_leastMet_5 rfl 0 rfl rfl ?_
      refine z_aload_n (pc' := 7) X dX6_leastMet_6 rfl 2 rfl rfl ?_
      refine z_get (pc' := 10) (C := RX6) (ref := "PivotBeatsModel") (T := TX6) (N := 19) (v := .int (jI (σ 10 0))) X dX6_leastMet_7 rfl hin6 0 rfl rfl 10 (by decide) (by decide +kernel) rfl rfl ?_
      refine z_icmp_ge (tgt := 40) (pc' := 13) X dX6_leastMet_10 (by decide) rfl (by omega) (fun h10 => ?_) (fun h10 => ?_)
      · refine z_iload_n (pc' := 41) X dX6_leastMet_40 rfl 1 rfl rfl ?_
        exact z_iret (post := (fun (rv : Int) (uu : St) => σ = uu ∧ rv = jS (mA σ) (mV σ) (mB σ) (mW σ) (σ 4 0).toNat 0 f)) X dX6_leastMet_41 hret σ (⟨rfl, (lm_end hwf hd1 hd2 hf (by rw [← show x = σ 10 0 by omega]; exact h2) (by rw [← show x = σ 10 0 by omega]; exact h3)).symm⟩)
      · have hx := hm.1 x (by omega) (by omega)
        refine z_aload_n (pc' := 14) X dX6_leastMet_13 rfl 2 rfl rfl ?_
        refine z_get (pc' := 17) (C := RX6) (ref := "PivotBeatsModel") (T := TX6) (N := 19) (v := .ref (q 11)) X dX6_leastMet_14 rfl hin6 0 rfl rfl 11 (by decide) (by decide +kernel) rfl rfl ?_
        refine z_iload_n (pc' := 18) X dX6_leastMet_17 rfl 0 rfl rfl ?_
        refine z_iald (pc' := 19) (f := σ 11) (n := 7) X dX6_leastMet_18 rfl 8 rfl (by decide) (by omega) ?_
        refine z_iload_n (pc' := 20) X dX6_leastMet_19 rfl 1 rfl rfl ?_
        refine z_icmp_ge (tgt := 32) (pc' := 23) X dX6_leastMet_20 (by decide) rfl (by omega) (fun h20 => ?_) (fun h20 => ?_)
        · refine z_iload_n (pc' := 33) X dX6_leastMet_32 rfl 1 rfl rfl ?_
          refine z_istore_n (pc' := 34) (lv' := [(1, .int (jI least)), (2, .int (jI x)), (0, .ref (q 0))]) X dX6_leastMet_33 rfl rfl (by decide) rfl ?_
          refine z_iinc (pc' := 37) (lv' := [(2, .int (jI (x + 1))), (1, .int (jI least)), (0, .ref (q 0))]) X dX6_leastMet_34 rfl 1 rfl (by decide) rfl ?_
          refine z_goto (tgt := 5) X dX6_leastMet_37 (by decide) ?_
          exact ih5 (x + 1) least  (by first | exact ⟨by omega, fun i i0 i1 => lm_a h2 h20 i i0 i1, Or.inr ⟨x, by omega, rfl⟩⟩ | exact ⟨by omega, fun i i0 i1 => lm_b h2 h20 i i0 i1, lm_c h1.1 h3 h20 hx.1⟩) (by clear h3; omega)
        · refine z_aload_n (pc' := 24) X dX6_leastMet_23 rfl 2 rfl rfl ?_
          refine z_get (pc' := 27) (C := RX6) (ref := "PivotBeatsModel") (T := TX6) (N := 19) (v := .ref (q 11)) X dX6_leastMet_24 rfl hin6 0 rfl rfl 11 (by decide) (by decide +kernel) rfl rfl ?_
          refine z_iload_n (pc' := 28) X dX6_leastMet_27 rfl 0 rfl rfl ?_
          refine z_iald (pc' := 29) (f := σ 11) (n := 7) X dX6_leastMet_28 rfl 8 rfl (by decide) (by omega) ?_
          refine z_goto (tgt := 33) X dX6_leastMet_29 (by decide) ?_
          refine z_istore_n (pc' := 34) (lv' := [(1, .int (jI (σ 11 x))), (2, .int (jI x)), (0, .ref (q 0))]) X dX6_leastMet_33 rfl rfl (by decide) rfl ?_
          refine z_iinc (pc' := 37) (lv' := [(2, .int (jI (x + 1))), (1, .int (jI (σ 11 x))), (0, .ref (q 0))]) X dX6_leastMet_34 rfl 1 rfl (by decide) rfl ?_
          refine z_goto (tgt := 5) X dX6_leastMet_37 (by decide) ?_
          exact ih5 (x + 1) (σ 11 x)  (by first | exact ⟨by omega, fun i i0 i1 => lm_a h2 h20 i i0 i1, Or.inr ⟨x, by omega, rfl⟩⟩ | exact ⟨by omega, fun i i0 i1 => lm_b h2 h20 i i0 i1, lm_c h1.1 h3 h20 hx.1⟩) (by clear h3; omega)
  exact lp5 _ 0 7  (⟨by omega, fun i h1 h2 => by omega, Or.inl ⟨rfl, rfl⟩⟩) (Nat.lt_succ_self _)
