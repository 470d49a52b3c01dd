theorem iShl1_rng {k : Int} (h : 0 ≤ k ∧ k < 20) : 0 ≤ iShl 1 k ∧ iShl 1 k < 2147483648 := by
  obtain ⟨n, rfl, hn⟩ : ∃ n : Nat, k = n ∧ n < 20 := ⟨k.toNat, by omega, by omega⟩
  have key : ∀ n : Nat, n < 20 → 0 ≤ iShl 1 (n : Int) ∧ iShl 1 (n : Int) < 2147483648 := by decide +kernel
  exact key n hn
theorem spr_z {u1 : St} {s : Int} (h4 : ∀ x, 0 ≤ x → x < s → u1 7 x = 0) (x : Int) (x0 : 0 ≤ x) (x1 : x < s + 1) : up u1 7 s 0 7 x = 0 := by
  rw [up_i]
  by_cases q : x = s
  · rw [if_pos q]
  · rw [if_neg q]; exact h4 x x0 (by omega)
theorem SPc_step {u σ : St} {k : Int} (heq : eqM u σ) (h0 : 0 ≤ k) (hs : u 6 k = jK (mA σ) (mV σ) (mB σ) (mW σ) k.toNat) (hK : u 6 k = 0 → (u 7 (u 5 (5 * k)) = 0 ↔ u 7 (u 5 (5 * k + 2)) = 0)) (h : SPc (mA σ) (mV σ) (mB σ) (mW σ) u k) : SPc (mA σ) (mV σ) (mB σ) (mW σ) u (k + 1) := by
  intro j hj hj0
  by_cases e : (j : Int) = k
  · have e2 : k.toNat = j := by omega
    rw [e2] at hs
    have := hK (by rw [hs]; exact hj0)
    rw [heq.2.2.2.2.2.1] at this
    show u 7 (σ 5 (5 * (j : Int))) = 0 ↔ u 7 (σ 5 (5 * (j : Int) + 2)) = 0
    rw [e]; exact this
  · exact h j (by omega) hj0
theorem SPI_v {a v b w : Int → Int} {n N : Nat} {f : Int} {u : St} (h : SPI a v b w n f u) (hN : tOk a v b w N) (hn : n ≤ N) (hf : 0 ≤ f ∧ f < 7) {x : Int} (hx : 0 ≤ x ∧ x < 7) : (0 ≤ u 7 x ∧ u 7 x ≤ 68719476736) ∧ (¬ u 7 x = 0 → (1 ≤ u 8 x ∧ u 8 x ≤ 68719476736) ∧ (0 ≤ u 9 x ∧ u 9 x < 2 ^ n)) := by
  rcases h.2.1 x hx with q | ⟨q0, q1, q2, q3⟩
  · exact ⟨by omega, fun z => absurd q z⟩
  · have bd := jS_bd hN hn hx hf q0
    have p1 := pU_pos (jS a v b w n 1 x - jS a v b w n 1 f) (jS a v b w n 2 x - jS a v b w n 2 f)
    have p2 := pU_bd (X := jS a v b w n 1 x - jS a v b w n 1 f) (Y := jS a v b w n 2 x - jS a v b w n 2 f) (by omega) (by omega)
    have p3 := pU_pos (-(jS a v b w n 1 x - jS a v b w n 1 f)) (-(jS a v b w n 2 x - jS a v b w n 2 f))
    have p4 := pU_bd (X := -(jS a v b w n 1 x - jS a v b w n 1 f)) (Y := -(jS a v b w n 2 x - jS a v b w n 2 f)) (by omega) (by omega)
    rw [← q1] at p1 p2
    rw [← q2] at p3 p4
    refine ⟨by omega, fun _ => ⟨by omega, ?_⟩⟩
    rw [q3]
    exact ⟨iXor_nn _ _, iXor_lt (jS_rt n f).2 (jS_rt n x).2⟩
theorem SPI_fit3 {a v b w : Int → Int} {n : Nat} {f : Int} {u : St} (h : SPI a v b w n f u) {y : Int} (hy : 0 ≤ y ∧ y < 7) (h0 : u 7 y = 0) : 0 ≤ u 10 0 ∧ u 10 0 < 7 := by
  have := SPI_fit h hy h0
  have := h.1
  omega
theorem spr_pre {u : St} {x y k m : Int} {n : Nat} {t1 t2 : Int} (hx : 0 ≤ x ∧ x < 7) (hy : 0 ≤ y ∧ y < 7) (hk : (0 ≤ k ∧ k < 12) ∧ n ≤ 12 ∧ ¬ u 7 x = 0) (hm : 0 ≤ m ∧ m < 7) (hv : (0 ≤ u 7 x ∧ u 7 x ≤ 68719476736) ∧ (¬ u 7 x = 0 → (1 ≤ u 8 x ∧ u 8 x ≤ 68719476736) ∧ (0 ≤ u 9 x ∧ u 9 x < 2 ^ n))) (h1 : 4 ≤ t1 ∧ t1 ≤ 144) (h2 : 4 ≤ t2 ∧ t2 ≤ 144) :
    (0 ≤ x ∧ x < 7) ∧ (0 ≤ y ∧ y < 7) ∧ (0 ≤ k ∧ k < 12) ∧ (0 ≤ m ∧ m < 7) ∧ (0 ≤ u 7 x * t2 ∧ u 7 x * t2 < 9223372036854775808) ∧ (0 < u 8 x * t1 ∧ u 8 x * t1 < 9223372036854775808) ∧ (0 ≤ u 9 x ∧ u 9 x < 2147483648) := by
  obtain ⟨⟨a1, a2⟩, q⟩ := hv
  obtain ⟨⟨b1, b2⟩, c1, c2⟩ := q hk.2.2
  have l1 : u 7 x * t2 ≤ 68719476736 * 144 := Int.mul_le_mul a2 h2.2 (by omega) (by omega)
  have l2 : u 8 x * t1 ≤ 68719476736 * 144 := Int.mul_le_mul b2 h1.2 (by omega) (by omega)
  have l3 : 0 ≤ u 7 x * t2 := Int.mul_nonneg a1 (by omega)
  have l4 : 0 < u 8 x * t1 := Int.mul_pos (by omega) (by omega)
  have l5 := (pow_le2 (n := n) (k := 12) hk.2.1).2
  have l6 : (2 : Int) ^ 12 = 4096 := by decide
  exact ⟨hx, hy, hk.1, hm, by omega, by omega, by omega⟩
theorem SPD_of {u σ : St} {m f : Int} (heq : eqM u σ) (h1 : SPI (mA σ) (mV σ) (mB σ) (mW σ) m.toNat f u) (h2 : SPc (mA σ) (mV σ) (mB σ) (mW σ) u m) : SPD u m f := by
  obtain ⟨t1, t2, t3, t4, -⟩ := heq.ties
  unfold SPD
  rw [t1, t2, t3, t4]
  exact ⟨h1, h2⟩
theorem spr_0 {a v b w : Int → Int} {n : Nat} {f : Int} {u1 u2 : St} (hf : 0 ≤ f ∧ f < 7) (h5 : ∀ x, 0 ≤ x ∧ x < 7 → u1 7 x = 0) (hu : u2 = up (up (up (up (up (up u1 7 f 1) 8 f 1) 9 f 0) 11 0 f) 12 0 (-9)) 10 0 1) : SPI a v b w n f u2 := by
  have q7 : ∀ z, u2 7 z = if z = f then 1 else u1 7 z := fun z => by rw [hu]; exact up_i u1 7 f _ z
  have q8 : ∀ z, u2 8 z = if z = f then 1 else u1 8 z := fun z => by rw [hu]; exact up_i u1 8 f _ z
  have q9 : ∀ z, u2 9 z = if z = f then 0 else u1 9 z := fun z => by rw [hu]; exact up_i u1 9 f _ z
  have q11 : ∀ z, u2 11 z = if z = 0 then f else u1 11 z := fun z => by rw [hu]; exact up_i u1 11 0 _ z
  have q10 : u2 10 0 = 1 := by rw [hu]; exact up_s _ 10 0 _
  clear hu
  have vis : ∀ z, 0 ≤ z ∧ z < 7 → (¬ u2 7 z = 0 ↔ z = f) := by
    intro z hz
    rw [q7]
    by_cases e : z = f
    · rw [if_pos e]; exact ⟨fun _ => e, fun _ => by omega⟩
    · rw [if_neg e]; exact ⟨fun q => absurd (h5 z hz) q, fun q => absurd q e⟩
  refine ⟨by omega, ?_, ?_, ?_, ⟨?_, ?_⟩, ⟨?_, ?_, ?_⟩, ?_⟩
  · intro x hx
    by_cases e : x = f
    · right
      subst e
      rw [q7, q8, q9, if_pos rfl, if_pos rfl, if_pos rfl, Int.sub_self, Int.sub_self, iXor_self]
      exact ⟨rfl, by decide, by decide, rfl⟩
    · left; rw [q7, if_neg e]; exact h5 x hx
  · intro x hx hv k hk
    rw [q9, if_pos ((vis x hx).mp hv)] at hk
    simp at hk
  · rw [q10]
    have e : sz7 (vz u2) 1 = sz7 (fun x => 0) 1 + 1 := by
      refine sz7_put hf (by omega) (vz_1.mpr ((vis f hf).mpr rfl)) (fun z hz e => ?_)
      rw [vz_1]
      exact ⟨fun q => absurd ((vis z hz).mp q) e, fun q => by omega⟩
    rw [e]; decide
  · rw [q11, if_pos rfl]
  · exact (vis f hf).mpr rfl
  · intro i i0 i1
    rw [q11, if_pos (by omega)]
    exact ⟨hf, (vis f hf).mpr rfl⟩
  · intro i j i0 ij j1; omega
  · intro x hx hv
    exact ⟨0, by omega, by omega, by rw [q11, if_pos rfl]; exact ((vis x hx).mp hv).symm⟩
  · intro i i1 i2; omega
theorem spr_s {σ u3 u4 : St} {k many f m0 : Int} (k1 : eqM u3 σ) (k2 : u3 6 = σ 6) (k3 : SPI (mA σ) (mV σ) (mB σ) (mW σ) many.toNat f u3) (hwf : WfM σ) (hsr : srt σ many) (hf : 0 ≤ f ∧ f < 7) (hk : 0 ≤ k ∧ k < many) (hm : many ≤ σ 4 0) (hsk : u3 6 k = jK (mA σ) (mV σ) (mB σ) (mW σ) k.toNat) (h0 : u3 6 k = 0) (hA : ¬ u3 7 (u3 5 (5 * k)) = 0) (hB : u3 7 (u3 5 (5 * k + 2)) = 0) (k5 : m0 ≤ u3 10 0)
    (hu : u4 = up (up (up (up (up (up u3 7 (u3 5 (5 * k + 2)) ((u3 7 (u3 5 (5 * k)) * tk (u3 5 (5 * k + 3))) / gcdI (u3 7 (u3 5 (5 * k)) * tk (u3 5 (5 * k + 3))) (u3 8 (u3 5 (5 * k)) * tk (u3 5 (5 * k + 1))))) 8 (u3 5 (5 * k + 2)) ((u3 8 (u3 5 (5 * k)) * tk (u3 5 (5 * k + 1))) / gcdI (u3 7 (u3 5 (5 * k)) * tk (u3 5 (5 * k + 3))) (u3 8 (u3 5 (5 * k)) * tk (u3 5 (5 * k + 1))))) 9 (u3 5 (5 * k + 2)) (iOr (u3 9 (u3 5 (5 * k))) (iShl 1 k))) 11 (u3 10 0) (u3 5 (5 * k + 2))) 12 (u3 10 0) k) 10 0 (u3 10 0 + 1)) :
    eqM u4 σ ∧ u4 6 = σ 6 ∧ SPI (mA σ) (mV σ) (mB σ) (mW σ) many.toNat f u4 ∧ (0 ≤ k + 1 ∧ k + 1 ≤ many) ∧ m0 ≤ u4 10 0 ∧ (m0 = u4 10 0 → SPc (mA σ) (mV σ) (mB σ) (mW σ) u4 (k + 1)) := by
  have hkN : ((k.toNat : Nat) : Int) = k := by omega
  have hkept : jK (mA σ) (mV σ) (mB σ) (mW σ) k.toNat = 0 := by rw [← hsk]; exact h0
  obtain ⟨j0, j1, j2, j3⟩ := jS_kept (n := many.toNat) (by omega) hkept
  have ht := (k1.wf hwf).tie (k := k) (by omega) (by rw [k1.2.2.2.2.1]; omega)
  have n0 := (k1.wf hwf).n.1
  have eA : mA σ ((k.toNat : Nat) : Int) = u3 5 (5 * k) := by rw [hkN, k1.2.2.2.2.2.1]; rfl
  have eB : mB σ ((k.toNat : Nat) : Int) = u3 5 (5 * k + 2) := by rw [hkN, k1.2.2.2.2.2.1]; rfl
  have eV : mV σ ((k.toNat : Nat) : Int) = u3 5 (5 * k + 1) := by rw [hkN, k1.2.2.2.2.2.1]; rfl
  have eW : mW σ ((k.toNat : Nat) : Int) = u3 5 (5 * k + 3) := by rw [hkN, k1.2.2.2.2.2.1]; rfl
  rw [eA, eB] at j0 j1 j2 j3
  rw [eV, eW] at j1 j2
  have e10 : u4 10 0 = u3 10 0 + 1 := by rw [hu]; exact up_s _ 10 0 _
  refine ⟨by rw [hu]; exact k1, by rw [hu]; exact k2, ?_, by omega, by omega, fun q => by omega⟩
  exact SPI_add hwf.tok (by omega) k3 hf (k := k.toNat) (by omega) hkept (by omega) (by omega) ht.2.1 ht.2.2.2.1 hA hB (Or.inl ⟨eA.symm, eB.symm⟩) j0 j1 j2 j3 (by rw [hkN]; exact hu)
theorem spr_t {σ u3 u4 : St} {k many f m0 : Int} (k1 : eqM u3 σ) (k2 : u3 6 = σ 6) (k3 : SPI (mA σ) (mV σ) (mB σ) (mW σ) many.toNat f u3) (hwf : WfM σ) (hsr : srt σ many) (hf : 0 ≤ f ∧ f < 7) (hk : 0 ≤ k ∧ k < many) (hm : many ≤ σ 4 0) (hsk : u3 6 k = jK (mA σ) (mV σ) (mB σ) (mW σ) k.toNat) (h0 : u3 6 k = 0) (hA : ¬ u3 7 (u3 5 (5 * k + 2)) = 0) (hB : u3 7 (u3 5 (5 * k)) = 0) (k5 : m0 ≤ u3 10 0)
    (hu : u4 = up (up (up (up (up (up u3 7 (u3 5 (5 * k)) ((u3 7 (u3 5 (5 * k + 2)) * tk (u3 5 (5 * k + 1))) / gcdI (u3 7 (u3 5 (5 * k + 2)) * tk (u3 5 (5 * k + 1))) (u3 8 (u3 5 (5 * k + 2)) * tk (u3 5 (5 * k + 3))))) 8 (u3 5 (5 * k)) ((u3 8 (u3 5 (5 * k + 2)) * tk (u3 5 (5 * k + 3))) / gcdI (u3 7 (u3 5 (5 * k + 2)) * tk (u3 5 (5 * k + 1))) (u3 8 (u3 5 (5 * k + 2)) * tk (u3 5 (5 * k + 3))))) 9 (u3 5 (5 * k)) (iOr (u3 9 (u3 5 (5 * k + 2))) (iShl 1 k))) 11 (u3 10 0) (u3 5 (5 * k))) 12 (u3 10 0) k) 10 0 (u3 10 0 + 1)) :
    eqM u4 σ ∧ u4 6 = σ 6 ∧ SPI (mA σ) (mV σ) (mB σ) (mW σ) many.toNat f u4 ∧ (0 ≤ k + 1 ∧ k + 1 ≤ many) ∧ m0 ≤ u4 10 0 ∧ (m0 = u4 10 0 → SPc (mA σ) (mV σ) (mB σ) (mW σ) u4 (k + 1)) := by
  have hkN : ((k.toNat : Nat) : Int) = k := by omega
  have hkept : jK (mA σ) (mV σ) (mB σ) (mW σ) k.toNat = 0 := by rw [← hsk]; exact h0
  obtain ⟨j0, j1, j2, j3⟩ := jS_kept (n := many.toNat) (by omega) hkept
  have ht := (k1.wf hwf).tie (k := k) (by omega) (by rw [k1.2.2.2.2.1]; omega)
  have n0 := (k1.wf hwf).n.1
  have eA : mA σ ((k.toNat : Nat) : Int) = u3 5 (5 * k) := by rw [hkN, k1.2.2.2.2.2.1]; rfl
  have eB : mB σ ((k.toNat : Nat) : Int) = u3 5 (5 * k + 2) := by rw [hkN, k1.2.2.2.2.2.1]; rfl
  have eV : mV σ ((k.toNat : Nat) : Int) = u3 5 (5 * k + 1) := by rw [hkN, k1.2.2.2.2.2.1]; rfl
  have eW : mW σ ((k.toNat : Nat) : Int) = u3 5 (5 * k + 3) := by rw [hkN, k1.2.2.2.2.2.1]; rfl
  rw [eA, eB] at j0 j1 j2 j3
  rw [eV, eW] at j1 j2
  have e10 : u4 10 0 = u3 10 0 + 1 := by rw [hu]; exact up_s _ 10 0 _
  refine ⟨by rw [hu]; exact k1, by rw [hu]; exact k2, ?_, by omega, by omega, fun q => by omega⟩
  exact SPI_add hwf.tok (by omega) k3 hf (k := k.toNat) (by omega) hkept (by omega) (by omega) ht.2.2.2.1 ht.2.1 hA hB (Or.inr ⟨eB.symm, eA.symm⟩) j0.symm (by omega) (by omega) (by rw [iXor_comm]; exact j3) (by rw [hkN]; exact hu)

set_option maxHeartbeats 4000000 in
set_option maxRecDepth 100000 in
theorem kX6_comes (l : Launch) (D : va_G) (E : Nat → Nat) (q : Nat → Nat) (σ : St) (from_ to_ k by_ per : Int) (hr : (0 ≤ from_ ∧ from_ < 7) ∧ (0 ≤ to_ ∧ to_ < 7) ∧ (0 ≤ k ∧ k < 12) ∧ (0 ≤ σ 10 0 ∧ σ 10 0 < 7) ∧ (0 ≤ (σ 7 from_ * by_) ∧ (σ 7 from_ * by_) < 9223372036854775808) ∧ (0 < (σ 8 from_ * per) ∧ (σ 8 from_ * per) < 9223372036854775808) ∧ (0 ≤ σ 9 from_ ∧ σ 9 from_ < 2147483648)) : CtV l D E yX6_comes wsX6_comes ({ frames := 1, cells := 0, slots := 0, locals := 29 } : Room) [.ref (q 0), .int (jI from_), .int (jI to_), .int (jI k), .long (jL by_), .long (jL per)] (MW E q σ) (MW E q) (fun (uu : St) => uu = up (up (up (up (up (up σ 7 to_ ((σ 7 from_ * by_) / gcdI (σ 7 from_ * by_) (σ 8 from_ * per))) 8 to_ ((σ 8 from_ * per) / gcdI (σ 7 from_ * by_) (σ 8 from_ * per))) 9 to_ (iOr (σ 9 from_) (iShl 1 k))) 11 (σ 10 0) to_) 12 (σ 10 0) k) 10 0 (σ 10 0 + 1)) := by
  refine mk_V (cc := cX6_comes) (maxL := 14) (ret := none) (by decide) rfl (Nat.le_of_ble_eq_true rfl) ?_
  intro p e s m args below meth c A X hret
  have hin6 : ∀ x ∈ u_ws RX6 TX6 19, x ∈ wsX6_comes := fun _ h => List.mem_cons_of_mem _ (List.mem_append_right _ h)
  refine z_lv (lv' := [(0, .ref (q 0)), (1, .int (jI from_)), (2, .int (jI to_)), (3, .int (jI k)), (4, .long (jL by_)), (6, .long (jL per))]) [0, 1, 2, 3, 4, 5] rfl ?_
  have hg := gcdI_pos (a := (σ 7 from_ * by_)) (b := (σ 8 from_ * per)) (by omega)
  have hg2 := gcdI_le (a := (σ 7 from_ * by_)) (b := (σ 8 from_ * per)) (by omega)
  have hs := iShl1_rng (k := k) (by omega)
  refine z_aload_n (pc' := 1) X dX6_comes_0 rfl 0 rfl rfl ?_
  refine z_get (pc' := 4) (C := RX6) (ref := "PivotBeatsModel") (T := TX6) (N := 19) (v := .ref (q 7)) X dX6_comes_1 rfl hin6 0 rfl rfl 7 (by decide) (by decide +kernel) rfl rfl ?_
  refine z_iload_n (pc' := 5) X dX6_comes_4 rfl 1 rfl rfl ?_
  refine z_lald (pc' := 6) (f := σ 7) (n := 7) X dX6_comes_5 rfl 5 rfl (by decide) (by omega) ?_
  refine z_lload (pc' := 8) X dX6_comes_6 rfl 4 rfl ?_
  refine z_lmul (pc' := 9) X dX6_comes_8 rfl ?_
  refine z_lstore (pc' := 11) (lv' := [(8, .long (jL ((σ 7 from_) * by_))), (0, .ref (q 0)), (1, .int (jI from_)), (2, .int (jI to_)), (3, .int (jI k)), (4, .long (jL by_)), (6, .long (jL per))]) X dX6_comes_9 rfl (by decide) rfl ?_
  refine z_aload_n (pc' := 12) X dX6_comes_11 rfl 1 rfl rfl ?_
  refine z_get (pc' := 15) (C := RX6) (ref := "PivotBeatsModel") (T := TX6) (N := 19) (v := .ref (q 8)) X dX6_comes_12 rfl hin6 0 rfl rfl 8 (by decide) (by decide +kernel) rfl rfl ?_
  refine z_iload_n (pc' := 16) X dX6_comes_15 rfl 2 rfl rfl ?_
  refine z_lald (pc' := 17) (f := σ 8) (n := 7) X dX6_comes_16 rfl 6 rfl (by decide) (by omega) ?_
  refine z_lload (pc' := 19) X dX6_comes_17 rfl 6 rfl ?_
  refine z_lmul (pc' := 20) X dX6_comes_19 rfl ?_
  refine z_lstore (pc' := 22) (lv' := [(10, .long (jL ((σ 8 from_) * per))), (8, .long (jL ((σ 7 from_) * by_))), (0, .ref (q 0)), (1, .int (jI from_)), (2, .int (jI to_)), (3, .int (jI k)), (4, .long (jL by_)), (6, .long (jL per))]) X dX6_comes_20 rfl (by decide) rfl ?_
  refine z_lload (pc' := 24) X dX6_comes_22 rfl 1 rfl ?_
  refine z_lload (pc' := 26) X dX6_comes_24 rfl 0 rfl ?_
  refine z_callPL (pc' := 29) (S := Unit) (As := [.long (jL ((σ 7 from_) * by_)), .long (jL ((σ 8 from_) * per))]) (rest := []) X dX6_comes_26 rfl (kX6_common l D E ((σ 7 from_) * by_) ((σ 8 from_) * per)  (by omega)) (va_cwS 2 X.1.2.2.2.2 gX6_comes_X6_common rfl rfl rfl (by decide +kernel) ⟨Nat.le_of_ble_eq_true rfl, Nat.le_of_ble_eq_true rfl⟩) rfl rfl (Nat.le_of_ble_eq_true rfl) (fun r26 u26 hp26 => ?_)
  replace hp26 := hp26.symm; subst hp26
  refine z_lstore (pc' := 31) (lv' := [(12, .long (jL (gcdI ((σ 7 from_) * by_) ((σ 8 from_) * per)))), (10, .long (jL ((σ 8 from_) * per))), (8, .long (jL ((σ 7 from_) * by_))), (0, .ref (q 0)), (1, .int (jI from_)), (2, .int (jI to_)), (3, .int (jI k)), (4, .long (jL by_)), (6, .long (jL per))]) X dX6_comes_29 rfl (by decide) rfl ?_
  refine z_aload_n (pc' := 32) X dX6_comes_31 rfl 3 rfl rfl ?_
  refine z_get (pc' := 35) (C := RX6) (ref := "PivotBeatsModel") (T := TX6) (N := 19) (v := .ref (q 7)) X dX6_comes_32 rfl hin6 0 rfl rfl 7 (by decide) (by decide +kernel) rfl rfl ?_
  refine z_iload_n (pc' := 36) X dX6_comes_35 rfl 5 rfl rfl ?_
  refine z_lload (pc' := 38) X dX6_comes_36 rfl 2 rfl ?_
  refine z_lload (pc' := 40) X dX6_comes_38 rfl 0 rfl ?_
  refine z_ldiv (pc' := 41) X dX6_comes_40 rfl (by omega) ?_
  refine z_last (pc' := 42) (f := σ 7) (n := 7) (w' := MW E q (up σ 7 to_ (((σ 7 from_) * by_) / (gcdI ((σ 7 from_) * by_) ((σ 8 from_) * per))))) X dX6_comes_41 rfl 5 rfl (by decide) (by omega) rfl ?_
  refine z_aload_n (pc' := 43) X dX6_comes_42 rfl 3 rfl rfl ?_
  refine z_get (pc' := 46) (C := RX6) (ref := "PivotBeatsModel") (T := TX6) (N := 19) (v := .ref (q 8)) X dX6_comes_43 rfl hin6 0 rfl rfl 8 (by decide) (by decide +kernel) rfl rfl ?_
  refine z_iload_n (pc' := 47) X dX6_comes_46 rfl 5 rfl rfl ?_
  refine z_lload (pc' := 49) X dX6_comes_47 rfl 1 rfl ?_
  refine z_lload (pc' := 51) X dX6_comes_49 rfl 0 rfl ?_
  refine z_ldiv (pc' := 52) X dX6_comes_51 rfl (by omega) ?_
  refine z_last (pc' := 53) (f := σ 8) (n := 7) (w' := MW E q (up (up σ 7 to_ (((σ 7 from_) * by_) / (gcdI ((σ 7 from_) * by_) ((σ 8 from_) * per)))) 8 to_ (((σ 8 from_) * per) / (gcdI ((σ 7 from_) * by_) ((σ 8 from_) * per))))) X dX6_comes_52 rfl 6 rfl (by decide) (by omega) rfl ?_
  refine z_aload_n (pc' := 54) X dX6_comes_53 rfl 3 rfl rfl ?_
  refine z_get (pc' := 57) (C := RX6) (ref := "PivotBeatsModel") (T := TX6) (N := 19) (v := .ref (q 9)) X dX6_comes_54 rfl hin6 0 rfl rfl 9 (by decide) (by decide +kernel) rfl rfl ?_
  refine z_iload_n (pc' := 58) X dX6_comes_57 rfl 5 rfl rfl ?_
  refine z_aload_n (pc' := 59) X dX6_comes_58 rfl 3 rfl rfl ?_
  refine z_get (pc' := 62) (C := RX6) (ref := "PivotBeatsModel") (T := TX6) (N := 19) (v := .ref (q 9)) X dX6_comes_59 rfl hin6 0 rfl rfl 9 (by decide) (by decide +kernel) rfl rfl ?_
  refine z_iload_n (pc' := 63) X dX6_comes_62 rfl 4 rfl rfl ?_
  refine z_iald (pc' := 64) (f := σ 9) (n := 7) X dX6_comes_63 rfl 7 rfl (by decide) (by omega) ?_
  refine z_iconst (pc' := 65) X dX6_comes_64 rfl ?_
  refine z_iload_n (pc' := 66) X dX6_comes_65 rfl 6 rfl rfl ?_
  refine z_ishl (pc' := 67) X dX6_comes_66 rfl (by omega) ?_
  refine z_ior (pc' := 68) X dX6_comes_67 rfl (by omega) ?_
  refine z_iast (pc' := 69) (f := σ 9) (n := 7) (w' := MW E q (up (up (up σ 7 to_ (((σ 7 from_) * by_) / (gcdI ((σ 7 from_) * by_) ((σ 8 from_) * per)))) 8 to_ (((σ 8 from_) * per) / (gcdI ((σ 7 from_) * by_) ((σ 8 from_) * per)))) 9 to_ (iOr (σ 9 from_) (iShl 1 k)))) X dX6_comes_68 rfl 7 rfl (by decide) (by omega) rfl ?_
  refine z_aload_n (pc' := 70) X dX6_comes_69 rfl 3 rfl rfl ?_
  refine z_get (pc' := 73) (C := RX6) (ref := "PivotBeatsModel") (T := TX6) (N := 19) (v := .ref (q 11)) X dX6_comes_70 rfl hin6 0 rfl rfl 11 (by decide) (by decide +kernel) rfl rfl ?_
  refine z_aload_n (pc' := 74) X dX6_comes_73 rfl 3 rfl rfl ?_
  refine z_get (pc' := 77) (C := RX6) (ref := "PivotBeatsModel") (T := TX6) (N := 19) (v := .int (jI (σ 10 0))) X dX6_comes_74 rfl hin6 0 rfl rfl 10 (by decide) (by decide +kernel) rfl rfl ?_
  refine z_iload_n (pc' := 78) X dX6_comes_77 rfl 5 rfl rfl ?_
  refine z_iast (pc' := 79) (f := σ 11) (n := 7) (w' := MW E q (up (up (up (up σ 7 to_ (((σ 7 from_) * by_) / (gcdI ((σ 7 from_) * by_) ((σ 8 from_) * per)))) 8 to_ (((σ 8 from_) * per) / (gcdI ((σ 7 from_) * by_) ((σ 8 from_) * per)))) 9 to_ (iOr (σ 9 from_) (iShl 1 k))) 11 (σ 10 0) to_)) X dX6_comes_78 rfl 8 rfl (by decide) (by omega) rfl ?_
  refine z_aload_n (pc' := 80) X dX6_comes_79 rfl 3 rfl rfl ?_
  refine z_get (pc' := 83) (C := RX6) (ref := "PivotBeatsModel") (T := TX6) (N := 19) (v := .ref (q 12)) X dX6_comes_80 rfl hin6 0 rfl rfl 12 (by decide) (by decide +kernel) rfl rfl ?_
  refine z_aload_n (pc' := 84) X dX6_comes_83 rfl 3 rfl rfl ?_
  refine z_get (pc' := 87) (C := RX6) (ref := "PivotBeatsModel") (T := TX6) (N := 19) (v := .int (jI (σ 10 0))) X dX6_comes_84 rfl hin6 0 rfl rfl 10 (by decide) (by decide +kernel) rfl rfl ?_
  refine z_iload_n (pc' := 88) X dX6_comes_87 rfl 6 rfl rfl ?_
  refine z_iast (pc' := 89) (f := σ 12) (n := 7) (w' := MW E q (up (up (up (up (up σ 7 to_ (((σ 7 from_) * by_) / (gcdI ((σ 7 from_) * by_) ((σ 8 from_) * per)))) 8 to_ (((σ 8 from_) * per) / (gcdI ((σ 7 from_) * by_) ((σ 8 from_) * per)))) 9 to_ (iOr (σ 9 from_) (iShl 1 k))) 11 (σ 10 0) to_) 12 (σ 10 0) k)) X dX6_comes_88 rfl 9 rfl (by decide) (by omega) rfl ?_
  refine z_aload_n (pc' := 90) X dX6_comes_89 rfl 3 rfl rfl ?_
  refine z_dup (pc' := 91) X dX6_comes_90 rfl rfl ?_
  refine z_get (pc' := 94) (C := RX6) (ref := "PivotBeatsModel") (T := TX6) (N := 19) (v := .int (jI (σ 10 0))) X dX6_comes_91 rfl hin6 0 rfl rfl 10 (by decide) (by decide +kernel) rfl rfl ?_
  refine z_iconst (pc' := 95) X dX6_comes_94 rfl ?_
  refine z_iadd (pc' := 96) X dX6_comes_95 rfl ?_
  refine z_put (pc' := 99) (C := RX6) (ref := "PivotBeatsModel") (T := TX6) (N := 19) (ty := .int) (w' := MW E q (up (up (up (up (up (up σ 7 to_ (((σ 7 from_) * by_) / (gcdI ((σ 7 from_) * by_) ((σ 8 from_) * per)))) 8 to_ (((σ 8 from_) * per) / (gcdI ((σ 7 from_) * by_) ((σ 8 from_) * per)))) 9 to_ (iOr (σ 9 from_) (iShl 1 k))) 11 (σ 10 0) to_) 12 (σ 10 0) k) 10 0 ((σ 10 0) + 1))) X dX6_comes_96 rfl hin6 tyX6 tyX6_ok nmX6 0 rfl rfl 10 (by decide) (by decide +kernel) rfl rfl (by decide +kernel) rfl rfl (Nat.le_of_ble_eq_true rfl) rfl ?_
  exact z_vret (post := (fun (uu : St) => uu = up (up (up (up (up (up σ 7 to_ ((σ 7 from_ * by_) / gcdI (σ 7 from_ * by_) (σ 8 from_ * per))) 8 to_ ((σ 8 from_ * per) / gcdI (σ 7 from_ * by_) (σ 8 from_ * per))) 9 to_ (iOr (σ 9 from_) (iShl 1 k))) 11 (σ 10 0) to_) 12 (σ 10 0) k) 10 0 (σ 10 0 + 1))) X dX6_comes_99 hret (up (up (up (up (up (up σ 7 to_ (((σ 7 from_) * by_) / (gcdI ((σ 7 from_) * by_) ((σ 8 from_) * per)))) 8 to_ (((σ 8 from_) * per) / (gcdI ((σ 7 from_) * by_) ((σ 8 from_) * per)))) 9 to_ (iOr (σ 9 from_) (iShl 1 k))) 11 (σ 10 0) to_) 12 (σ 10 0) k) 10 0 ((σ 10 0) + 1)) (rfl)
set_option maxHeartbeats 4000000 in
set_option maxRecDepth 100000 in
theorem kX6_spread (l : Launch) (D : va_G) (E : Nat → Nat) (q : Nat → Nat) (σ : St) (from_ many : Int) (hwf : WfM σ) (hf : 0 ≤ from_ ∧ from_ < 7) (hm : 0 ≤ many ∧ many ≤ σ 4 0) (hsr : srt σ many) : CtV l D E yX6_spread wsX6_spread ({ frames := 2, cells := 0, slots := 0, locals := 62 } : Room) [.ref (q 0), .int (jI from_), .int (jI many)] (MW E q σ) (MW E q) (fun (uu : St) => eqM uu σ ∧ uu 6 = σ 6 ∧ SPD uu many from_) := by
  refine mk_V (cc := cX6_spread) (maxL := 11) (ret := none) (by decide) rfl (Nat.le_of_ble_eq_true rfl) ?_
  intro p e s m args below meth c A X hret
  have hin6 : ∀ x ∈ u_ws RX6 TX6 19, x ∈ wsX6_spread := fun _ h => List.mem_cons_of_mem _ (List.mem_append_right _ h)
  refine z_lv (lv' := [(0, .ref (q 0)), (1, .int (jI from_)), (2, .int (jI many))]) [0, 1, 2] rfl ?_
  obtain ⟨n0, n3, n4, n13⟩ := hwf.n
  refine z_iconst (pc' := 1) X dX6_spread_0 rfl ?_
  refine z_istore_n (pc' := 2) (lv' := [(3, .int (jI 0)), (0, .ref (q 0)), (1, .int (jI from_)), (2, .int (jI many))]) X dX6_spread_1 rfl rfl (by decide) rfl ?_
  have lp2 : ∀ (nF : Nat) (s_ : Int) (u1 : St) , ((0 ≤ s_ ∧ s_ ≤ 7) ∧ eqM u1 σ ∧ u1 6 = σ 6 ∧ ∀ x, 0 ≤ x → x < s_ → u1 7 x = 0) → ((7 - s_).toNat : Nat) < nF → J p l e (headSpec wsX6_spread ({ frames := 2, cells := 0, slots := 0, locals := 62 } : Room)).room s m args below meth c D A 11 (MQ below (va_Qv (fun (uu : St) => eqM uu σ ∧ uu 6 = σ 6 ∧ SPD uu many from_) (Bw D (MW E q) A) A) args s 0 0 A) 2 [(3, .int (jI s_)), (0, .ref (q 0)), (1, .int (jI from_)), (2, .int (jI many))] [] (MW E q u1) := by
    intro nF
    induction nF with
    | zero => intro s_ u1  hI hn; exact absurd hn (Nat.not_lt_zero _)
    | succ nF ih2 =>
      intro s_ u1  hI hn
      obtain ⟨h1, h2, h3, h4⟩ := hI
      refine z_iload_n (pc' := 3) X dX6_spread_2 rfl 0 rfl rfl ?_
      refine z_bipush (pc' := 5) X dX6_spread_3 rfl rfl ?_
      refine z_icmp_ge (tgt := 21) (pc' := 8) X dX6_spread_5 (by decide) rfl (by omega) (fun h5 => ?_) (fun h5 => ?_)
      · have h5 : ∀ x, 0 ≤ x ∧ x < 7 → u1 7 x = 0 := fun x hx => h4 x hx.1 (by omega)
        refine z_aload_n (pc' := 22) X dX6_spread_21 rfl 1 rfl rfl ?_
        refine z_get (pc' := 25) (C := RX6) (ref := "PivotBeatsModel") (T := TX6) (N := 19) (v := .ref (q 7)) X dX6_spread_22 rfl hin6 0 rfl rfl 7 (by decide) (by decide +kernel) rfl rfl ?_
        refine z_iload_n (pc' := 26) X dX6_spread_25 rfl 2 rfl rfl ?_
        refine z_lconst (pc' := 27) (x := 1) X dX6_spread_26 rfl rfl ?_
        refine z_last (pc' := 28) (f := u1 7) (n := 7) (w' := MW E q (up u1 7 from_ 1)) X dX6_spread_27 rfl 5 rfl (by decide) (by omega) rfl ?_
        refine z_aload_n (pc' := 29) X dX6_spread_28 rfl 1 rfl rfl ?_
        refine z_get (pc' := 32) (C := RX6) (ref := "PivotBeatsModel") (T := TX6) (N := 19) (v := .ref (q 8)) X dX6_spread_29 rfl hin6 0 rfl rfl 8 (by decide) (by decide +kernel) rfl rfl ?_
        refine z_iload_n (pc' := 33) X dX6_spread_32 rfl 2 rfl rfl ?_
        refine z_lconst (pc' := 34) (x := 1) X dX6_spread_33 rfl rfl ?_
        refine z_last (pc' := 35) (f := u1 8) (n := 7) (w' := MW E q (up (up u1 7 from_ 1) 8 from_ 1)) X dX6_spread_34 rfl 6 rfl (by decide) (by omega) rfl ?_
        refine z_aload_n (pc' := 36) X dX6_spread_35 rfl 1 rfl rfl ?_
        refine z_get (pc' := 39) (C := RX6) (ref := "PivotBeatsModel") (T := TX6) (N := 19) (v := .ref (q 9)) X dX6_spread_36 rfl hin6 0 rfl rfl 9 (by decide) (by decide +kernel) rfl rfl ?_
        refine z_iload_n (pc' := 40) X dX6_spread_39 rfl 2 rfl rfl ?_
        refine z_iconst (pc' := 41) X dX6_spread_40 rfl ?_
        refine z_iast (pc' := 42) (f := u1 9) (n := 7) (w' := MW E q (up (up (up u1 7 from_ 1) 8 from_ 1) 9 from_ 0)) X dX6_spread_41 rfl 7 rfl (by decide) (by omega) rfl ?_
        refine z_aload_n (pc' := 43) X dX6_spread_42 rfl 1 rfl rfl ?_
        refine z_get (pc' := 46) (C := RX6) (ref := "PivotBeatsModel") (T := TX6) (N := 19) (v := .ref (q 11)) X dX6_spread_43 rfl hin6 0 rfl rfl 11 (by decide) (by decide +kernel) rfl rfl ?_
        refine z_iconst (pc' := 47) X dX6_spread_46 rfl ?_
        refine z_iload_n (pc' := 48) X dX6_spread_47 rfl 2 rfl rfl ?_
        refine z_iast (pc' := 49) (f := u1 11) (n := 7) (w' := MW E q (up (up (up (up u1 7 from_ 1) 8 from_ 1) 9 from_ 0) 11 0 from_)) X dX6_spread_48 rfl 8 rfl (by decide) (by omega) rfl ?_
        refine z_aload_n (pc' := 50) X dX6_spread_49 rfl 1 rfl rfl ?_
        refine z_get (pc' := 53) (C := RX6) (ref := "PivotBeatsModel") (T := TX6) (N := 19) (v := .ref (q 12)) X dX6_spread_50 rfl hin6 0 rfl rfl 12 (by decide) (by decide +kernel) rfl rfl ?_
        refine z_iconst (pc' := 54) X dX6_spread_53 rfl ?_
        refine z_bipush (pc' := 56) X dX6_spread_54 rfl rfl ?_
        refine z_iast (pc' := 57) (f := u1 12) (n := 7) (w' := MW E q (up (up (up (up (up u1 7 from_ 1) 8 from_ 1) 9 from_ 0) 11 0 from_) 12 0 (-9))) X dX6_spread_56 rfl 9 rfl (by decide) (by omega) rfl ?_
        refine z_aload_n (pc' := 58) X dX6_spread_57 rfl 1 rfl rfl ?_
        refine z_iconst (pc' := 59) X dX6_spread_58 rfl ?_
        refine z_put (pc' := 62) (C := RX6) (ref := "PivotBeatsModel") (T := TX6) (N := 19) (ty := .int) (w' := MW E q (up (up (up (up (up (up u1 7 from_ 1) 8 from_ 1) 9 from_ 0) 11 0 from_) 12 0 (-9)) 10 0 1)) X dX6_spread_59 rfl hin6 tyX6 tyX6_ok nmX6 0 rfl rfl 10 (by decide) (by decide +kernel) rfl rfl (by decide +kernel) rfl rfl (Nat.le_of_ble_eq_true rfl) rfl ?_
        refine z_iconst (pc' := 63) X dX6_spread_62 rfl ?_
        refine z_istore_n (pc' := 64) (lv' := [(3, .int (jI 0)), (0, .ref (q 0)), (1, .int (jI from_)), (2, .int (jI many))]) X dX6_spread_63 rfl rfl (by decide) rfl ?_
        have lp64 : ∀ (nF : Nat) (had : Int) (u2 : St) , (eqM u2 σ ∧ u2 6 = σ 6 ∧ SPI (mA σ) (mV σ) (mB σ) (mW σ) many.toNat from_ u2 ∧ (0 ≤ had ∧ had ≤ u2 10 0) ∧ (had = u2 10 0 → SPc (mA σ) (mV σ) (mB σ) (mW σ) u2 many)) → ((8 - had).toNat : Nat) < nF → J p l e (headSpec wsX6_spread ({ frames := 2, cells := 0, slots := 0, locals := 62 } : Room)).room s m args below meth c D A 11 (MQ below (va_Qv (fun (uu : St) => eqM uu σ ∧ uu 6 = σ 6 ∧ SPD uu many from_) (Bw D (MW E q) A) A) args s 0 0 A) 64 [(3, .int (jI had)), (0, .ref (q 0)), (1, .int (jI from_)), (2, .int (jI many))] [] (MW E q u2) := by
          intro nF
          induction nF with
          | zero => intro had u2  hI hn; exact absurd hn (Nat.not_lt_zero _)
          | succ nF ih64 =>
            intro had u2  hI hn
            obtain ⟨g1, g2, g3, g4, g5⟩ := hI
            have g31 := g3.1
            refine z_iload_n (pc' := 65) X dX6_spread_64 rfl 0 rfl rfl ?_
            refine z_aload_n (pc' := 66) X dX6_spread_65 rfl 1 rfl rfl ?_
            refine z_get (pc' := 69) (C := RX6) (ref := "PivotBeatsModel") (T := TX6) (N := 19) (v := .int (jI (u2 10 0))) X dX6_spread_66 rfl hin6 0 rfl rfl 10 (by decide) (by decide +kernel) rfl rfl ?_
            refine z_icmp_ge (tgt := 252) (pc' := 72) X dX6_spread_69 (by decide) rfl (by omega) (fun h69 => ?_) (fun h69 => ?_)
            · exact z_vret (post := (fun (uu : St) => eqM uu σ ∧ uu 6 = σ 6 ∧ SPD uu many from_)) X dX6_spread_252 hret u2 (⟨g1, g2, SPD_of g1 g3 (g5 (by omega))⟩)
            · refine z_aload_n (pc' := 73) X dX6_spread_72 rfl 1 rfl rfl ?_
              refine z_get (pc' := 76) (C := RX6) (ref := "PivotBeatsModel") (T := TX6) (N := 19) (v := .int (jI (u2 10 0))) X dX6_spread_73 rfl hin6 0 rfl rfl 10 (by decide) (by decide +kernel) rfl rfl ?_
              refine z_istore_n (pc' := 77) (lv' := [(3, .int (jI (u2 10 0))), (0, .ref (q 0)), (1, .int (jI from_)), (2, .int (jI many))]) X dX6_spread_76 rfl rfl (by decide) rfl ?_
              refine z_iconst (pc' := 78) X dX6_spread_77 rfl ?_
              refine z_istore (pc' := 80) (lv' := [(4, .int (jI 0)), (3, .int (jI (u2 10 0))), (0, .ref (q 0)), (1, .int (jI from_)), (2, .int (jI many))]) X dX6_spread_78 rfl (by decide) rfl ?_
              have lp80 : ∀ (nF : Nat) (k : Int) (u3 : St) , (eqM u3 σ ∧ u3 6 = σ 6 ∧ SPI (mA σ) (mV σ) (mB σ) (mW σ) many.toNat from_ u3 ∧ (0 ≤ k ∧ k ≤ many) ∧ u2 10 0 ≤ u3 10 0 ∧ (u2 10 0 = u3 10 0 → SPc (mA σ) (mV σ) (mB σ) (mW σ) u3 k)) → ((12 - k).toNat : Nat) < nF → J p l e (headSpec wsX6_spread ({ frames := 2, cells := 0, slots := 0, locals := 62 } : Room)).room s m args below meth c D A 11 (MQ below (va_Qv (fun (uu : St) => eqM uu σ ∧ uu 6 = σ 6 ∧ SPD uu many from_) (Bw D (MW E q) A) A) args s 0 0 A) 80 [(4, .int (jI k)), (3, .int (jI (u2 10 0))), (0, .ref (q 0)), (1, .int (jI from_)), (2, .int (jI many))] [] (MW E q u3) := by
                intro nF
                induction nF with
                | zero => intro k u3  hI hn; exact absurd hn (Nat.not_lt_zero _)
                | succ nF ih80 =>
                  intro k u3  hI hn
                  obtain ⟨k1, k2, k3, k4, k5, k6⟩ := hI
                  have w3 := k1.wf hwf
                  obtain ⟨m0, m3, m4, m13⟩ := w3.n
                  have e4 : u3 4 0 = σ 4 0 := by rw [k1.2.2.2.2.1]
                  have e0 : u3 0 0 = σ 0 0 := by rw [k1.1]
                  refine z_iload (pc' := 82) X dX6_spread_80 rfl 0 rfl ?_
                  refine z_iload_n (pc' := 83) X dX6_spread_82 rfl 4 rfl rfl ?_
                  refine z_icmp_ge (tgt := 249) (pc' := 86) X dX6_spread_83 (by decide) rfl (by omega) (fun h83 => ?_) (fun h83 => ?_)
                  · refine z_goto (tgt := 64) X dX6_spread_249 (by decide) ?_
                    refine z_lv (lv' := [(3, .int (jI (u2 10 0))), (0, .ref (q 0)), (1, .int (jI from_)), (2, .int (jI many))]) [1, 2, 3, 4] rfl ?_
                    exact ih64 (u2 10 0) u3  (⟨k1, k2, k3, by omega, fun q => by have := k6 q; rw [show k = many by omega] at this; exact this⟩) (by omega)
                  · have ht := w3.tie (k := k) (by omega) (by omega)
                    have hsk : u3 6 k = jK (mA σ) (mV σ) (mB σ) (mW σ) k.toNat := by rw [k2]; have := hsr k.toNat (by omega); rw [show ((k.toNat : Nat) : Int) = k by omega] at this; exact this
                    have nA := SPI_v k3 hwf.tok (by omega) (show 0 ≤ from_ ∧ from_ < 7 by omega) (x := u3 5 (5 * k)) (by omega)
                    have nB := SPI_v k3 hwf.tok (by omega) (show 0 ≤ from_ ∧ from_ < 7 by omega) (x := u3 5 (5 * k + 2)) (by omega)
                    have k31 := k3.1
                    have ta := tk_rng ht.2.1
                    have tb := tk_rng ht.2.2.2.1
                    have jr := jK_rng (a := mA σ) (v := mV σ) (b := mB σ) (w := mW σ) k.toNat
                    refine z_aload_n (pc' := 87) X dX6_spread_86 rfl 2 rfl rfl ?_
                    refine z_get (pc' := 90) (C := RX6) (ref := "PivotBeatsModel") (T := TX6) (N := 19) (v := .ref (q 5)) X dX6_spread_87 rfl hin6 0 rfl rfl 5 (by decide) (by decide +kernel) rfl rfl ?_
                    refine z_iconst (pc' := 91) X dX6_spread_90 rfl ?_
                    refine z_iload (pc' := 93) X dX6_spread_91 rfl 0 rfl ?_
                    refine z_imul (pc' := 94) X dX6_spread_93 rfl ?_
                    refine z_iald (pc' := 95) (f := u3 5) (n := 60) X dX6_spread_94 rfl 3 rfl (by decide) (by omega) ?_
                    refine z_istore (pc' := 97) (lv' := [(5, .int (jI (u3 5 (5 * k)))), (4, .int (jI k)), (3, .int (jI (u2 10 0))), (0, .ref (q 0)), (1, .int (jI from_)), (2, .int (jI many))]) X dX6_spread_95 rfl (by decide) rfl ?_
                    refine z_aload_n (pc' := 98) X dX6_spread_97 rfl 3 rfl rfl ?_
                    refine z_get (pc' := 101) (C := RX6) (ref := "PivotBeatsModel") (T := TX6) (N := 19) (v := .ref (q 5)) X dX6_spread_98 rfl hin6 0 rfl rfl 5 (by decide) (by decide +kernel) rfl rfl ?_
                    refine z_iconst (pc' := 102) X dX6_spread_101 rfl ?_
                    refine z_iload (pc' := 104) X dX6_spread_102 rfl 1 rfl ?_
                    refine z_imul (pc' := 105) X dX6_spread_104 rfl ?_
                    refine z_iconst (pc' := 106) X dX6_spread_105 rfl ?_
                    refine z_iadd (pc' := 107) X dX6_spread_106 rfl ?_
                    refine z_iald (pc' := 108) (f := u3 5) (n := 60) X dX6_spread_107 rfl 3 rfl (by decide) (by omega) ?_
                    refine z_istore (pc' := 110) (lv' := [(6, .int (jI (u3 5 ((5 * k) + 2)))), (5, .int (jI (u3 5 (5 * k)))), (4, .int (jI k)), (3, .int (jI (u2 10 0))), (0, .ref (q 0)), (1, .int (jI from_)), (2, .int (jI many))]) X dX6_spread_108 rfl (by decide) rfl ?_
                    refine z_aload_n (pc' := 111) X dX6_spread_110 rfl 4 rfl rfl ?_
                    refine z_get (pc' := 114) (C := RX6) (ref := "PivotBeatsModel") (T := TX6) (N := 19) (v := .ref (q 5)) X dX6_spread_111 rfl hin6 0 rfl rfl 5 (by decide) (by decide +kernel) rfl rfl ?_
                    refine z_iconst (pc' := 115) X dX6_spread_114 rfl ?_
                    refine z_iload (pc' := 117) X dX6_spread_115 rfl 2 rfl ?_
                    refine z_imul (pc' := 118) X dX6_spread_117 rfl ?_
                    refine z_iconst (pc' := 119) X dX6_spread_118 rfl ?_
                    refine z_iadd (pc' := 120) X dX6_spread_119 rfl ?_
                    refine z_iald (pc' := 121) (f := u3 5) (n := 60) X dX6_spread_120 rfl 3 rfl (by decide) (by omega) ?_
                    refine z_callPI (pc' := 124) (S := Unit) (As := [.int (jI (u3 5 ((5 * k) + 1)))]) (rest := []) X dX6_spread_121 rfl (kX6_ticksOf l D E (u3 5 ((5 * k) + 1))  (by omega)) (va_cwS 1 X.1.2.2.2.2 gX6_spread_X6_ticksOf rfl rfl rfl (by decide +kernel) ⟨Nat.le_of_ble_eq_true rfl, Nat.le_of_ble_eq_true rfl⟩) rfl rfl (Nat.le_of_ble_eq_true rfl) (fun r121 u121 hp121 => ?_)
                    replace hp121 := hp121.symm; subst hp121
                    refine z_i2l (pc' := 125) X dX6_spread_124 rfl (by omega) ?_
                    refine z_lstore (pc' := 127) (lv' := [(7, .long (jL (tk (u3 5 ((5 * k) + 1))))), (6, .int (jI (u3 5 ((5 * k) + 2)))), (5, .int (jI (u3 5 (5 * k)))), (4, .int (jI k)), (3, .int (jI (u2 10 0))), (0, .ref (q 0)), (1, .int (jI from_)), (2, .int (jI many))]) X dX6_spread_125 rfl (by decide) rfl ?_
                    refine z_aload_n (pc' := 128) X dX6_spread_127 rfl 5 rfl rfl ?_
                    refine z_get (pc' := 131) (C := RX6) (ref := "PivotBeatsModel") (T := TX6) (N := 19) (v := .ref (q 5)) X dX6_spread_128 rfl hin6 0 rfl rfl 5 (by decide) (by decide +kernel) rfl rfl ?_
                    refine z_iconst (pc' := 132) X dX6_spread_131 rfl ?_
                    refine z_iload (pc' := 134) X dX6_spread_132 rfl 3 rfl ?_
                    refine z_imul (pc' := 135) X dX6_spread_134 rfl ?_
                    refine z_iconst (pc' := 136) X dX6_spread_135 rfl ?_
                    refine z_iadd (pc' := 137) X dX6_spread_136 rfl ?_
                    refine z_iald (pc' := 138) (f := u3 5) (n := 60) X dX6_spread_137 rfl 3 rfl (by decide) (by omega) ?_
                    refine z_callPI (pc' := 141) (S := Unit) (As := [.int (jI (u3 5 ((5 * k) + 3)))]) (rest := []) X dX6_spread_138 rfl (kX6_ticksOf l D E (u3 5 ((5 * k) + 3))  (by omega)) (va_cwS 1 X.1.2.2.2.2 gX6_spread_X6_ticksOf rfl rfl rfl (by decide +kernel) ⟨Nat.le_of_ble_eq_true rfl, Nat.le_of_ble_eq_true rfl⟩) rfl rfl (Nat.le_of_ble_eq_true rfl) (fun r138 u138 hp138 => ?_)
                    replace hp138 := hp138.symm; subst hp138
                    refine z_i2l (pc' := 142) X dX6_spread_141 rfl (by omega) ?_
                    refine z_lstore (pc' := 144) (lv' := [(9, .long (jL (tk (u3 5 ((5 * k) + 3))))), (7, .long (jL (tk (u3 5 ((5 * k) + 1))))), (6, .int (jI (u3 5 ((5 * k) + 2)))), (5, .int (jI (u3 5 (5 * k)))), (4, .int (jI k)), (3, .int (jI (u2 10 0))), (0, .ref (q 0)), (1, .int (jI from_)), (2, .int (jI many))]) X dX6_spread_142 rfl (by decide) rfl ?_
                    refine z_aload_n (pc' := 145) X dX6_spread_144 rfl 6 rfl rfl ?_
                    refine z_get (pc' := 148) (C := RX6) (ref := "PivotBeatsModel") (T := TX6) (N := 19) (v := .ref (q 6)) X dX6_spread_145 rfl hin6 0 rfl rfl 6 (by decide) (by decide +kernel) rfl rfl ?_
                    refine z_iload (pc' := 150) X dX6_spread_148 rfl 4 rfl ?_
                    refine z_iald (pc' := 151) (f := u3 6) (n := 12) X dX6_spread_150 rfl 4 rfl (by decide) (by omega) ?_
                    refine z_if_ne (tgt := 195) (pc' := 154) X dX6_spread_151 (by decide) rfl (by omega) (fun h151 => ?_) (fun h151 => ?_)
                    · refine z_aload_n (pc' := 196) X dX6_spread_195 rfl 6 rfl rfl ?_
                      refine z_get (pc' := 199) (C := RX6) (ref := "PivotBeatsModel") (T := TX6) (N := 19) (v := .ref (q 6)) X dX6_spread_196 rfl hin6 0 rfl rfl 6 (by decide) (by decide +kernel) rfl rfl ?_
                      refine z_iload (pc' := 201) X dX6_spread_199 rfl 4 rfl ?_
                      refine z_iald (pc' := 202) (f := u3 6) (n := 12) X dX6_spread_201 rfl 4 rfl (by decide) (by omega) ?_
                      refine z_if_ne (tgt := 243) (pc' := 205) X dX6_spread_202 (by decide) rfl (by omega) (fun h202 => ?_) (fun h202 => by exfalso; omega)
                      refine z_iinc (pc' := 246) (lv' := [(4, .int (jI (k + 1))), (9, .long (jL (tk (u3 5 ((5 * k) + 3))))), (7, .long (jL (tk (u3 5 ((5 * k) + 1))))), (6, .int (jI (u3 5 ((5 * k) + 2)))), (5, .int (jI (u3 5 (5 * k)))), (3, .int (jI (u2 10 0))), (0, .ref (q 0)), (1, .int (jI from_)), (2, .int (jI many))]) X dX6_spread_243 rfl 4 rfl (by decide) rfl ?_
                      refine z_goto (tgt := 80) X dX6_spread_246 (by decide) ?_
                      refine z_lv (lv' := [(4, .int (jI (k + 1))), (3, .int (jI (u2 10 0))), (0, .ref (q 0)), (1, .int (jI from_)), (2, .int (jI many))]) [0, 5, 6, 7, 8] rfl ?_
                      exact ih80 (k + 1) u3  (by first | exact ⟨k1, k2, k3, by omega, k5, fun q => SPc_step k1 (by omega) hsk (fun z => by omega) (k6 q)⟩ | exact spr_s k1 k2 k3 hwf hsr (by omega) (by omega) (by omega) hsk h151 (by omega) (by omega) k5 hp189 | exact spr_t k1 k2 k3 hwf hsr (by omega) (by omega) (by omega) hsk h202 (by omega) (by omega) k5 hp240) (by omega)
                    · refine z_aload_n (pc' := 155) X dX6_spread_154 rfl 6 rfl rfl ?_
                      refine z_get (pc' := 158) (C := RX6) (ref := "PivotBeatsModel") (T := TX6) (N := 19) (v := .ref (q 7)) X dX6_spread_155 rfl hin6 0 rfl rfl 7 (by decide) (by decide +kernel) rfl rfl ?_
                      refine z_iload (pc' := 160) X dX6_spread_158 rfl 3 rfl ?_
                      refine z_lald (pc' := 161) (f := u3 7) (n := 7) X dX6_spread_160 rfl 5 rfl (by decide) (by omega) ?_
                      refine z_lconst (pc' := 162) (x := 0) X dX6_spread_161 rfl rfl ?_
                      refine z_lcmp_le (tgt := 195) (pc' := 166) X dX6_spread_162 (pc1 := 163) rfl dX6_spread_163 (by decide) rfl (by omega) (fun h162 => ?_) (fun h162 => ?_)
                      · refine z_aload_n (pc' := 196) X dX6_spread_195 rfl 6 rfl rfl ?_
                        refine z_get (pc' := 199) (C := RX6) (ref := "PivotBeatsModel") (T := TX6) (N := 19) (v := .ref (q 6)) X dX6_spread_196 rfl hin6 0 rfl rfl 6 (by decide) (by decide +kernel) rfl rfl ?_
                        refine z_iload (pc' := 201) X dX6_spread_199 rfl 4 rfl ?_
                        refine z_iald (pc' := 202) (f := u3 6) (n := 12) X dX6_spread_201 rfl 4 rfl (by decide) (by omega) ?_
                        refine z_if_ne (tgt := 243) (pc' := 205) X dX6_spread_202 (by decide) rfl (by omega) (fun h202 => by exfalso; omega) (fun h202 => ?_)
                        refine z_aload_n (pc' := 206) X dX6_spread_205 rfl 6 rfl rfl ?_
                        refine z_get (pc' := 209) (C := RX6) (ref := "PivotBeatsModel") (T := TX6) (N := 19) (v := .ref (q 7)) X dX6_spread_206 rfl hin6 0 rfl rfl 7 (by decide) (by decide +kernel) rfl rfl ?_
                        refine z_iload (pc' := 211) X dX6_spread_209 rfl 2 rfl ?_
                        refine z_lald (pc' := 212) (f := u3 7) (n := 7) X dX6_spread_211 rfl 5 rfl (by decide) (by omega) ?_
                        refine z_lconst (pc' := 213) (x := 0) X dX6_spread_212 rfl rfl ?_
                        refine z_lcmp_le (tgt := 243) (pc' := 217) X dX6_spread_213 (pc1 := 214) rfl dX6_spread_214 (by decide) rfl (by omega) (fun h213 => ?_) (fun h213 => ?_)
                        · refine z_iinc (pc' := 246) (lv' := [(4, .int (jI (k + 1))), (9, .long (jL (tk (u3 5 ((5 * k) + 3))))), (7, .long (jL (tk (u3 5 ((5 * k) + 1))))), (6, .int (jI (u3 5 ((5 * k) + 2)))), (5, .int (jI (u3 5 (5 * k)))), (3, .int (jI (u2 10 0))), (0, .ref (q 0)), (1, .int (jI from_)), (2, .int (jI many))]) X dX6_spread_243 rfl 4 rfl (by decide) rfl ?_
                          refine z_goto (tgt := 80) X dX6_spread_246 (by decide) ?_
                          refine z_lv (lv' := [(4, .int (jI (k + 1))), (3, .int (jI (u2 10 0))), (0, .ref (q 0)), (1, .int (jI from_)), (2, .int (jI many))]) [0, 5, 6, 7, 8] rfl ?_
                          exact ih80 (k + 1) u3  (by first | exact ⟨k1, k2, k3, by omega, k5, fun q => SPc_step k1 (by omega) hsk (fun z => by omega) (k6 q)⟩ | exact spr_s k1 k2 k3 hwf hsr (by omega) (by omega) (by omega) hsk h151 (by omega) (by omega) k5 hp189 | exact spr_t k1 k2 k3 hwf hsr (by omega) (by omega) (by omega) hsk h202 (by omega) (by omega) k5 hp240) (by omega)
                        · refine z_aload_n (pc' := 218) X dX6_spread_217 rfl 6 rfl rfl ?_
                          refine z_get (pc' := 221) (C := RX6) (ref := "PivotBeatsModel") (T := TX6) (N := 19) (v := .ref (q 7)) X dX6_spread_218 rfl hin6 0 rfl rfl 7 (by decide) (by decide +kernel) rfl rfl ?_
                          refine z_iload (pc' := 223) X dX6_spread_221 rfl 3 rfl ?_
                          refine z_lald (pc' := 224) (f := u3 7) (n := 7) X dX6_spread_223 rfl 5 rfl (by decide) (by omega) ?_
                          refine z_lconst (pc' := 225) (x := 0) X dX6_spread_224 rfl rfl ?_
                          refine z_lcmp_ne (tgt := 243) (pc' := 229) X dX6_spread_225 (pc1 := 226) rfl dX6_spread_226 (by decide) rfl (by omega) (fun h225 => ?_) (fun h225 => ?_)
                          · refine z_iinc (pc' := 246) (lv' := [(4, .int (jI (k + 1))), (9, .long (jL (tk (u3 5 ((5 * k) + 3))))), (7, .long (jL (tk (u3 5 ((5 * k) + 1))))), (6, .int (jI (u3 5 ((5 * k) + 2)))), (5, .int (jI (u3 5 (5 * k)))), (3, .int (jI (u2 10 0))), (0, .ref (q 0)), (1, .int (jI from_)), (2, .int (jI many))]) X dX6_spread_243 rfl 4 rfl (by decide) rfl ?_
                            refine z_goto (tgt := 80) X dX6_spread_246 (by decide) ?_
                            refine z_lv (lv' := [(4, .int (jI (k + 1))), (3, .int (jI (u2 10 0))), (0, .ref (q 0)), (1, .int (jI from_)), (2, .int (jI many))]) [0, 5, 6, 7, 8] rfl ?_
                            exact ih80 (k + 1) u3  (by first | exact ⟨k1, k2, k3, by omega, k5, fun q => SPc_step k1 (by omega) hsk (fun z => by omega) (k6 q)⟩ | exact spr_s k1 k2 k3 hwf hsr (by omega) (by omega) (by omega) hsk h151 (by omega) (by omega) k5 hp189 | exact spr_t k1 k2 k3 hwf hsr (by omega) (by omega) (by omega) hsk h202 (by omega) (by omega) k5 hp240) (by omega)
                          · refine z_aload_n (pc' := 230) X dX6_spread_229 rfl 6 rfl rfl ?_
                            refine z_iload (pc' := 232) X dX6_spread_230 rfl 2 rfl ?_
                            refine z_iload (pc' := 234) X dX6_spread_232 rfl 3 rfl ?_
                            refine z_iload (pc' := 236) X dX6_spread_234 rfl 4 rfl ?_
                            refine z_lload (pc' := 238) X dX6_spread_236 rfl 1 rfl ?_
                            refine z_lload (pc' := 240) X dX6_spread_238 rfl 0 rfl ?_
                            refine z_callVV (pc' := 243) (S := St) (As := [.int (jI (u3 5 ((5 * k) + 2))), .int (jI (u3 5 (5 * k))), .int (jI k), .long (jL (tk (u3 5 ((5 * k) + 1)))), .long (jL (tk (u3 5 ((5 * k) + 3))))]) (rest := []) X dX6_spread_240 rfl (kX6_comes l D E q u3 (u3 5 ((5 * k) + 2)) (u3 5 (5 * k)) k (tk (u3 5 ((5 * k) + 1))) (tk (u3 5 ((5 * k) + 3)))  (spr_pre (by omega) (by omega) (by omega) (SPI_fit3 k3 (by omega) h225) nB tb ta)) (cwV 5 X.1.2.2.2.2 gX6_spread_X6_comes rfl rfl rfl (by decide +kernel) ⟨Nat.le_of_ble_eq_true rfl, Nat.le_of_ble_eq_true rfl⟩) 0 rfl rfl rfl rfl (Nat.le_of_ble_eq_true rfl) (fun u240 hp240 => ?_)
                            refine z_iinc (pc' := 246) (lv' := [(4, .int (jI (k + 1))), (9, .long (jL (tk (u3 5 ((5 * k) + 3))))), (7, .long (jL (tk (u3 5 ((5 * k) + 1))))), (6, .int (jI (u3 5 ((5 * k) + 2)))), (5, .int (jI (u3 5 (5 * k)))), (3, .int (jI (u2 10 0))), (0, .ref (q 0)), (1, .int (jI from_)), (2, .int (jI many))]) X dX6_spread_243 rfl 4 rfl (by decide) rfl ?_
                            refine z_goto (tgt := 80) X dX6_spread_246 (by decide) ?_
                            refine z_lv (lv' := [(4, .int (jI (k + 1))), (3, .int (jI (u2 10 0))), (0, .ref (q 0)), (1, .int (jI from_)), (2, .int (jI many))]) [0, 5, 6, 7, 8] rfl ?_
                            exact ih80 (k + 1) u240  (by first | exact ⟨k1, k2, k3, by omega, k5, fun q => SPc_step k1 (by omega) hsk (fun z => by omega) (k6 q)⟩ | exact spr_s k1 k2 k3 hwf hsr (by omega) (by omega) (by omega) hsk h151 (by omega) (by omega) k5 hp189 | exact spr_t k1 k2 k3 hwf hsr (by omega) (by omega) (by omega) hsk h202 (by omega) (by omega) k5 hp240) (by omega)
                      · refine z_aload_n (pc' := 167) X dX6_spread_166 rfl 6 rfl rfl ?_
                        refine z_get (pc' := 170) (C := RX6) (ref := "PivotBeatsModel") (T := TX6) (N := 19) (v := .ref (q 7)) X dX6_spread_167 rfl hin6 0 rfl rfl 7 (by decide) (by decide +kernel) rfl rfl ?_
                        refine z_iload (pc' := 172) X dX6_spread_170 rfl 2 rfl ?_
                        refine z_lald (pc' := 173) (f := u3 7) (n := 7) X dX6_spread_172 rfl 5 rfl (by decide) (by omega) ?_
                        refine z_lconst (pc' := 174) (x := 0) X dX6_spread_173 rfl rfl ?_
                        refine z_lcmp_ne (tgt := 195) (pc' := 178) X dX6_spread_174 (pc1 := 175) rfl dX6_spread_175 (by decide) rfl (by omega) (fun h174 => ?_) (fun h174 => ?_)
                        · refine z_aload_n (pc' := 196) X dX6_spread_195 rfl 6 rfl rfl ?_
                          refine z_get (pc' := 199) (C := RX6) (ref := "PivotBeatsModel") (T := TX6) (N := 19) (v := .ref (q 6)) X dX6_spread_196 rfl hin6 0 rfl rfl 6 (by decide) (by decide +kernel) rfl rfl ?_
                          refine z_iload (pc' := 201) X dX6_spread_199 rfl 4 rfl ?_
                          refine z_iald (pc' := 202) (f := u3 6) (n := 12) X dX6_spread_201 rfl 4 rfl (by decide) (by omega) ?_
                          refine z_if_ne (tgt := 243) (pc' := 205) X dX6_spread_202 (by decide) rfl (by omega) (fun h202 => by exfalso; omega) (fun h202 => ?_)
                          refine z_aload_n (pc' := 206) X dX6_spread_205 rfl 6 rfl rfl ?_
                          refine z_get (pc' := 209) (C := RX6) (ref := "PivotBeatsModel") (T := TX6) (N := 19) (v := .ref (q 7)) X dX6_spread_206 rfl hin6 0 rfl rfl 7 (by decide) (by decide +kernel) rfl rfl ?_
                          refine z_iload (pc' := 211) X dX6_spread_209 rfl 2 rfl ?_
                          refine z_lald (pc' := 212) (f := u3 7) (n := 7) X dX6_spread_211 rfl 5 rfl (by decide) (by omega) ?_
                          refine z_lconst (pc' := 213) (x := 0) X dX6_spread_212 rfl rfl ?_
                          refine z_lcmp_le (tgt := 243) (pc' := 217) X dX6_spread_213 (pc1 := 214) rfl dX6_spread_214 (by decide) rfl (by omega) (fun h213 => ?_) (fun h213 => ?_)
                          · refine z_iinc (pc' := 246) (lv' := [(4, .int (jI (k + 1))), (9, .long (jL (tk (u3 5 ((5 * k) + 3))))), (7, .long (jL (tk (u3 5 ((5 * k) + 1))))), (6, .int (jI (u3 5 ((5 * k) + 2)))), (5, .int (jI (u3 5 (5 * k)))), (3, .int (jI (u2 10 0))), (0, .ref (q 0)), (1, .int (jI from_)), (2, .int (jI many))]) X dX6_spread_243 rfl 4 rfl (by decide) rfl ?_
                            refine z_goto (tgt := 80) X dX6_spread_246 (by decide) ?_
                            refine z_lv (lv' := [(4, .int (jI (k + 1))), (3, .int (jI (u2 10 0))), (0, .ref (q 0)), (1, .int (jI from_)), (2, .int (jI many))]) [0, 5, 6, 7, 8] rfl ?_
                            exact ih80 (k + 1) u3  (by first | exact ⟨k1, k2, k3, by omega, k5, fun q => SPc_step k1 (by omega) hsk (fun z => by omega) (k6 q)⟩ | exact spr_s k1 k2 k3 hwf hsr (by omega) (by omega) (by omega) hsk h151 (by omega) (by omega) k5 hp189 | exact spr_t k1 k2 k3 hwf hsr (by omega) (by omega) (by omega) hsk h202 (by omega) (by omega) k5 hp240) (by omega)
                          · refine z_aload_n (pc' := 218) X dX6_spread_217 rfl 6 rfl rfl ?_
                            refine z_get (pc' := 221) (C := RX6) (ref := "PivotBeatsModel") (T := TX6) (N := 19) (v := .ref (q 7)) X dX6_spread_218 rfl hin6 0 rfl rfl 7 (by decide) (by decide +kernel) rfl rfl ?_
                            refine z_iload (pc' := 223) X dX6_spread_221 rfl 3 rfl ?_
                            refine z_lald (pc' := 224) (f := u3 7) (n := 7) X dX6_spread_223 rfl 5 rfl (by decide) (by omega) ?_
                            refine z_lconst (pc' := 225) (x := 0) X dX6_spread_224 rfl rfl ?_
                            refine z_lcmp_ne (tgt := 243) (pc' := 229) X dX6_spread_225 (pc1 := 226) rfl dX6_spread_226 (by decide) rfl (by omega) (fun h225 => ?_) (fun h225 => ?_)
                            · refine z_iinc (pc' := 246) (lv' := [(4, .int (jI (k + 1))), (9, .long (jL (tk (u3 5 ((5 * k) + 3))))), (7, .long (jL (tk (u3 5 ((5 * k) + 1))))), (6, .int (jI (u3 5 ((5 * k) + 2)))), (5, .int (jI (u3 5 (5 * k)))), (3, .int (jI (u2 10 0))), (0, .ref (q 0)), (1, .int (jI from_)), (2, .int (jI many))]) X dX6_spread_243 rfl 4 rfl (by decide) rfl ?_
                              refine z_goto (tgt := 80) X dX6_spread_246 (by decide) ?_
                              refine z_lv (lv' := [(4, .int (jI (k + 1))), (3, .int (jI (u2 10 0))), (0, .ref (q 0)), (1, .int (jI from_)), (2, .int (jI many))]) [0, 5, 6, 7, 8] rfl ?_
                              exact ih80 (k + 1) u3  (by first | exact ⟨k1, k2, k3, by omega, k5, fun q => SPc_step k1 (by omega) hsk (fun z => by omega) (k6 q)⟩ | exact spr_s k1 k2 k3 hwf hsr (by omega) (by omega) (by omega) hsk h151 (by omega) (by omega) k5 hp189 | exact spr_t k1 k2 k3 hwf hsr (by omega) (by omega) (by omega) hsk h202 (by omega) (by omega) k5 hp240) (by omega)
                            · refine z_aload_n (pc' := 230) X dX6_spread_229 rfl 6 rfl rfl ?_
                              refine z_iload (pc' := 232) X dX6_spread_230 rfl 2 rfl ?_
                              refine z_iload (pc' := 234) X dX6_spread_232 rfl 3 rfl ?_
                              refine z_iload (pc' := 236) X dX6_spread_234 rfl 4 rfl ?_
                              refine z_lload (pc' := 238) X dX6_spread_236 rfl 1 rfl ?_
                              refine z_lload (pc' := 240) X dX6_spread_238 rfl 0 rfl ?_
                              refine z_callVV (pc' := 243) (S := St) (As := [.int (jI (u3 5 ((5 * k) + 2))), .int (jI (u3 5 (5 * k))), .int (jI k), .long (jL (tk (u3 5 ((5 * k) + 1)))), .long (jL (tk (u3 5 ((5 * k) + 3))))]) (rest := []) X dX6_spread_240 rfl (kX6_comes l D E q u3 (u3 5 ((5 * k) + 2)) (u3 5 (5 * k)) k (tk (u3 5 ((5 * k) + 1))) (tk (u3 5 ((5 * k) + 3)))  (spr_pre (by omega) (by omega) (by omega) (SPI_fit3 k3 (by omega) h225) nB tb ta)) (cwV 5 X.1.2.2.2.2 gX6_spread_X6_comes rfl rfl rfl (by decide +kernel) ⟨Nat.le_of_ble_eq_true rfl, Nat.le_of_ble_eq_true rfl⟩) 0 rfl rfl rfl rfl (Nat.le_of_ble_eq_true rfl) (fun u240 hp240 => ?_)
                              refine z_iinc (pc' := 246) (lv' := [(4, .int (jI (k + 1))), (9, .long (jL (tk (u3 5 ((5 * k) + 3))))), (7, .long (jL (tk (u3 5 ((5 * k) + 1))))), (6, .int (jI (u3 5 ((5 * k) + 2)))), (5, .int (jI (u3 5 (5 * k)))), (3, .int (jI (u2 10 0))), (0, .ref (q 0)), (1, .int (jI from_)), (2, .int (jI many))]) X dX6_spread_243 rfl 4 rfl (by decide) rfl ?_
                              refine z_goto (tgt := 80) X dX6_spread_246 (by decide) ?_
                              refine z_lv (lv' := [(4, .int (jI (k + 1))), (3, .int (jI (u2 10 0))), (0, .ref (q 0)), (1, .int (jI from_)), (2, .int (jI many))]) [0, 5, 6, 7, 8] rfl ?_
                              exact ih80 (k + 1) u240  (by first | exact ⟨k1, k2, k3, by omega, k5, fun q => SPc_step k1 (by omega) hsk (fun z => by omega) (k6 q)⟩ | exact spr_s k1 k2 k3 hwf hsr (by omega) (by omega) (by omega) hsk h151 (by omega) (by omega) k5 hp189 | exact spr_t k1 k2 k3 hwf hsr (by omega) (by omega) (by omega) hsk h202 (by omega) (by omega) k5 hp240) (by omega)
                        · refine z_aload_n (pc' := 179) X dX6_spread_178 rfl 6 rfl rfl ?_
                          refine z_iload (pc' := 181) X dX6_spread_179 rfl 3 rfl ?_
                          refine z_iload (pc' := 183) X dX6_spread_181 rfl 2 rfl ?_
                          refine z_iload (pc' := 185) X dX6_spread_183 rfl 4 rfl ?_
                          refine z_lload (pc' := 187) X dX6_spread_185 rfl 0 rfl ?_
                          refine z_lload (pc' := 189) X dX6_spread_187 rfl 1 rfl ?_
                          refine z_callVV (pc' := 192) (S := St) (As := [.int (jI (u3 5 (5 * k))), .int (jI (u3 5 ((5 * k) + 2))), .int (jI k), .long (jL (tk (u3 5 ((5 * k) + 3)))), .long (jL (tk (u3 5 ((5 * k) + 1))))]) (rest := []) X dX6_spread_189 rfl (kX6_comes l D E q u3 (u3 5 (5 * k)) (u3 5 ((5 * k) + 2)) k (tk (u3 5 ((5 * k) + 3))) (tk (u3 5 ((5 * k) + 1)))  (spr_pre (by omega) (by omega) (by omega) (SPI_fit3 k3 (by omega) h174) nA ta tb)) (cwV 5 X.1.2.2.2.2 gX6_spread_X6_comes rfl rfl rfl (by decide +kernel) ⟨Nat.le_of_ble_eq_true rfl, Nat.le_of_ble_eq_true rfl⟩) 0 rfl rfl rfl rfl (Nat.le_of_ble_eq_true rfl) (fun u189 hp189 => ?_)
                          refine z_goto (tgt := 243) X dX6_spread_192 (by decide) ?_
                          refine z_iinc (pc' := 246) (lv' := [(4, .int (jI (k + 1))), (9, .long (jL (tk (u3 5 ((5 * k) + 3))))), (7, .long (jL (tk (u3 5 ((5 * k) + 1))))), (6, .int (jI (u3 5 ((5 * k) + 2)))), (5, .int (jI (u3 5 (5 * k)))), (3, .int (jI (u2 10 0))), (0, .ref (q 0)), (1, .int (jI from_)), (2, .int (jI many))]) X dX6_spread_243 rfl 4 rfl (by decide) rfl ?_
                          refine z_goto (tgt := 80) X dX6_spread_246 (by decide) ?_
                          refine z_lv (lv' := [(4, .int (jI (k + 1))), (3, .int (jI (u2 10 0))), (0, .ref (q 0)), (1, .int (jI from_)), (2, .int (jI many))]) [0, 5, 6, 7, 8] rfl ?_
                          exact ih80 (k + 1) u189  (by first | exact ⟨k1, k2, k3, by omega, k5, fun q => SPc_step k1 (by omega) hsk (fun z => by omega) (k6 q)⟩ | exact spr_s k1 k2 k3 hwf hsr (by omega) (by omega) (by omega) hsk h151 (by omega) (by omega) k5 hp189 | exact spr_t k1 k2 k3 hwf hsr (by omega) (by omega) (by omega) hsk h202 (by omega) (by omega) k5 hp240) (by omega)
              exact lp80 _ 0 u2  (⟨g1, g2, g3, by omega, by omega, fun _ => fun k h => by omega⟩) (Nat.lt_succ_self _)
        exact lp64 _ 0 (up (up (up (up (up (up u1 7 from_ 1) 8 from_ 1) 9 from_ 0) 11 0 from_) 12 0 (-9)) 10 0 1)  (⟨h2, h3, spr_0 (by omega) h5 rfl, ⟨by omega, Int.le_trans (show (0:Int) ≤ 1 by omega) (Int.le_of_eq (up_s _ 10 0 1).symm)⟩, fun q => absurd (q.trans (up_s _ 10 0 1)) (by omega)⟩) (Nat.lt_succ_self _)
      · refine z_aload_n (pc' := 9) X dX6_spread_8 rfl 1 rfl rfl ?_
        refine z_get (pc' := 12) (C := RX6) (ref := "PivotBeatsModel") (T := TX6) (N := 19) (v := .ref (q 7)) X dX6_spread_9 rfl hin6 0 rfl rfl 7 (by decide) (by decide +kernel) rfl rfl ?_
        refine z_iload_n (pc' := 13) X dX6_spread_12 rfl 0 rfl rfl ?_
        refine z_lconst (pc' := 14) (x := 0) X dX6_spread_13 rfl rfl ?_
        refine z_last (pc' := 15) (f := u1 7) (n := 7) (w' := MW E q (up u1 7 s_ 0)) X dX6_spread_14 rfl 5 rfl (by decide) (by omega) rfl ?_
        refine z_iinc (pc' := 18) (lv' := [(3, .int (jI (s_ + 1))), (0, .ref (q 0)), (1, .int (jI from_)), (2, .int (jI many))]) X dX6_spread_15 rfl 0 rfl (by decide) rfl ?_
        refine z_goto (tgt := 2) X dX6_spread_18 (by decide) ?_
        exact ih2 (s_ + 1) (up u1 7 s_ 0)  (⟨by omega, h2, h3, fun x x0 x1 => spr_z h4 x x0 x1⟩) (by omega)
  exact lp2 _ 0 σ  (⟨by omega, eqM.rf σ, rfl, fun x h1 h2 => by omega⟩) (Nat.lt_succ_self _)
