theorem ly_put {u1 : St} {p r t w : Int} (h : ∀ s, 0 ≤ s → s < r → LYo p (s - 10) (u1 31 s) (u1 32 s)) (hr : LYo p (r - 10) t w) : ∀ s, 0 ≤ s → s < r + 1 → LYo p (s - 10) ((up (up u1 31 r t) 32 r w) 31 s) ((up (up u1 31 r t) 32 r w) 32 s) := by
  intro s s0 s1
  have e1 : (up (up u1 31 r t) 32 r w) 31 s = if s = r then t else u1 31 s := up_i u1 31 r t s
  have e2 : (up (up u1 31 r t) 32 r w) 32 s = if s = r then w else u1 32 s := up_i (up u1 31 r t) 32 r w s
  rw [e1, e2]
  by_cases q : s = r
  · rw [if_pos q, if_pos q, q]; exact hr
  · rw [if_neg q, if_neg q]; exact h s s0 (by omega)
theorem p17 {t : Int} (h : 20 * (2 : Int) ^ t.toNat < 2361960) : t ≤ 16 := by
  by_cases q : t ≤ 16
  · exact q
  · have := (pow_le2 (show 17 ≤ t.toNat by omega)).2
    have e : (2 : Int) ^ 17 = 131072 := by decide
    omega
theorem p21 {t : Int} (h : (2 : Int) ^ t.toNat ≤ 1180980) : t ≤ 21 := by
  by_cases q : t ≤ 21
  · exact q
  · have := (pow_le2 (show 22 ≤ t.toNat by omega)).2
    have e : (2 : Int) ^ 22 = 4194304 := by decide
    omega
theorem lyA {r U t P : Int} {A : Int} (hL : 1 ≤ (3 : Int) ^ (10 - r).toNat ∧ (3 : Int) ^ (10 - r).toNat ≤ 59049) (g1 : 0 ≤ t ∧ t ≤ 17) (g2 : U = P * A * 2 ^ t.toNat) (g5 : 20 * 2 ^ t.toNat ≤ U) (h : U < 20 * 3 ^ (10 - r).toNat) : (0 ≤ t + 1 ∧ t + 1 ≤ 17) ∧ U * 2 = P * A * 2 ^ (t + 1).toNat ∧ (t + 1 = 0 ∨ U * 2 < 40 * 3 ^ (10 - r).toNat) ∧ (20 ≤ U * 2 ∧ U * 2 ≤ 23619600) ∧ 20 * 2 ^ (t + 1).toNat ≤ U * 2 := by
  have e : (t + 1).toNat = t.toNat + 1 := by omega
  have p1 := (pow_le2 (Nat.le_refl t.toNat)).1
  have b := p17 (t := t) (by omega)
  have e2 : (2 : Int) ^ (t + 1).toNat = 2 ^ t.toNat * 2 := by rw [e, Int.pow_succ]
  rw [e2]
  exact ⟨by omega, by rw [g2]; ac_rfl, Or.inr (by omega), by omega, by omega⟩
theorem lyB {r U L t P : Int} (hU3 : 1 ≤ (3 : Int) ^ (r - 10).toNat ∧ (3 : Int) ^ (r - 10).toNat ≤ 59049) (g4 : 20 ≤ U ∧ U ≤ 23619600) (k1 : -22 ≤ t ∧ t ≤ 17) (k2 : U = P * 3 ^ (r - 10).toNat * 2 ^ t.toNat) (k3 : L = 3 ^ (-(r - 10)).toNat * 2 ^ (-t).toNat) (k4 : 20 * L ≤ U) (k6 : 1 ≤ L) (k5 : t ≤ 0) (h : 40 * L ≤ U) : (-22 ≤ t + -1 ∧ t + -1 ≤ 17) ∧ U = P * 3 ^ (r - 10).toNat * 2 ^ (t + -1).toNat ∧ L * 2 = 3 ^ (-(r - 10)).toNat * 2 ^ (-(t + -1)).toNat ∧ 20 * (L * 2) ≤ U ∧ (t + -1 ≤ 0 ∨ U < 40 * (L * 2)) ∧ 1 ≤ L * 2 := by
  have e : (-(t + -1)).toNat = (-t).toNat + 1 := by omega
  have e2 : (2 : Int) ^ (-(t + -1)).toNat = 2 ^ (-t).toNat * 2 := by rw [e, Int.pow_succ]
  have e0 : (t + -1).toNat = t.toNat := by omega
  have p1 := (pow_le3 (Nat.le_refl (-(r - 10)).toNat)).1
  have p2 := (pow_le2 (Nat.le_refl (-t).toNat)).1
  have l : (2 : Int) ^ (-t).toNat ≤ L := by rw [k3]; have z := Int.mul_le_mul_of_nonneg_right p1 (show (0 : Int) ≤ 2 ^ (-t).toNat by omega); rw [Int.one_mul] at z; exact z
  have b := p21 (t := -t) (by omega)
  rw [e2, e0]
  exact ⟨by omega, k2, by rw [k3]; ac_rfl, by omega, by omega, by omega⟩
theorem cs0 {u1 : St} {x : Int} (h3 : ∀ i, 0 ≤ i → i < x → u1 33 i = 0) : ∀ i, 0 ≤ i → i < x + 1 → up u1 33 x 0 33 i = 0 := by
  intro i i0 i1
  rw [up_i]
  by_cases q : i = x
  · rw [if_pos q]
  · rw [if_neg q]; exact h3 i i0 (by omega)
theorem csA {u : St} {set v w : Int} (hv : 0 ≤ v ∧ v < 20) (hw : 0 ≤ w ∧ w < 20) (h : STb u set (20 * v + w)) (h1 : ins set v) (h2 : ins set w) : STb (up u 33 ((th w - th v + 2) * 13 + (tw w - tw v + 6)) 1) set (20 * v + (w + 1)) := by
  have := ST_add (by omega) h ((stp_vw hw).mpr ⟨h1, h2⟩)
  unfold sI at this
  rw [(dX_vw hw).1, (dX_vw hw).2] at this
  rw [show 20 * v + (w + 1) = 20 * v + w + 1 by omega]
  exact this
theorem csB {u : St} {set v w : Int} (hv : 0 ≤ v ∧ v < 20) (hw : 0 ≤ w ∧ w < 20) (h : STb u set (20 * v + w)) (h1 : ¬ (ins set v ∧ ins set w)) : STb u set (20 * v + (w + 1)) := by
  rw [show 20 * v + (w + 1) = 20 * v + w + 1 by omega]
  exact ST_skip (by omega) h (fun z => h1 ((stp_vw hw).mp z))
section MV
variable {u σ : St} {p_ set_ X_ Y_ : Int}
theorem cXm (h : ∀ F, F ≠ 34 → F ≠ 35 → u F = σ F) (P : Int) : cX u P = cX σ P := by unfold cX; rw [h 31 (by decide) (by decide)]
theorem LYm (h : ∀ F, F ≠ 34 → F ≠ 35 → u F = σ F) (hl : LY σ p_) : LY u p_ := by unfold LY; rw [h 31 (by decide) (by decide), h 32 (by decide) (by decide)]; exact hl
theorem LYn (h : ∀ F, F ≠ 27 → u F = σ F) (hl : LY σ p_) : LY u p_ := by unfold LY; rw [h 31 (by decide), h 32 (by decide)]; exact hl
theorem LYk (h : ∀ F, F ≠ 33 → u F = σ F) (hl : LY σ p_) : LY u p_ := by unfold LY; rw [h 31 (by decide), h 32 (by decide)]; exact hl
theorem DSn (h : ∀ F, F ≠ 27 → u F = σ F) (hd : DST σ p_ set_ X_ Y_) : DST u p_ set_ X_ Y_ := by
  unfold DST VP cX
  rw [h 31 (by decide), h 34 (by decide)]
  exact hd
theorem STm (h : ∀ F, F ≠ 34 → F ≠ 35 → u F = σ F) (hs : STb σ set_ 400) : STb u set_ 400 := by unfold STb; rw [h 33 (by decide) (by decide)]; exact hs
theorem VPm (h : ∀ F, F ≠ 34 → F ≠ 35 → u F = σ F) {f : Int} (hf : VP σ p_ f ∧ cX σ f = X_ ∧ cY f = Y_) : VP u p_ f ∧ cX u f = X_ ∧ cY f = Y_ := by
  unfold VP
  rw [cXm h]
  exact hf
theorem hst_at {x : Int} (hst : STb σ set_ 400) (h : ∀ F, F ≠ 34 → F ≠ 35 → u F = σ F) (x0 : 0 ≤ x) (x1 : x < 65) : u 33 x = 0 ∨ u 33 x = 1 := by
  rw [h 33 (by decide) (by decide)]
  rcases hst x x0 x1 with z | z
  · exact Or.inr z.1
  · exact Or.inl z.1
theorem BQ_rng {n P : Int} (h : BQ p_ set_ X_ Y_ u n) (hP : 0 ≤ P ∧ P < 105) : -9 ≤ u 34 P ∧ u 34 P ≤ 5 := by
  rcases h.2.2.2.1 P hP.1 hP.2 with z | ⟨j, j1, j2⟩
  · omega
  · have := (h.2.1 j j1.1 j1.2).2.1
    rw [j2] at this
    omega
theorem DST_rng {P : Int} (h : DST u p_ set_ X_ Y_) (hP : VP u p_ P) : -9 ≤ u 34 P ∧ u 34 P ≤ 5 := by
  rcases h P hP with z | ⟨e, e1, e2, -⟩
  · omega
  · omega
variable {u1 : St} {x nx pl n_ qa : Int}
theorem qnA (hj : (u1 33 x = 1 ∧ PLC u1 p_ (cX u1 pl + x % 13 - 6) (cY pl + x / 13 - 2) nx) ∨ (u1 33 x = 0 ∧ nx = -9)) (h : nx = -9) : u1 33 x = 1 → ∀ Q, VP u1 p_ Q → cX u1 Q = cX u1 pl + x % 13 - 6 → cY Q = cY pl + x / 13 - 2 → ¬ u1 34 Q = -9 ∧ u1 34 Q ≤ u1 34 pl + 1 := by
  intro h1 Q hQ ex ey
  rcases hj with ⟨-, q⟩ | q
  · rcases q with q | q
    · have := hQ.2
      rw [ex, ey] at this
      exact absurd this q.2
    · have := q.2.2.1.1
      omega
  · omega
theorem qnV (hj : (u1 33 x = 1 ∧ PLC u1 p_ (cX u1 pl + x % 13 - 6) (cY pl + x / 13 - 2) nx) ∨ (u1 33 x = 0 ∧ nx = -9)) (h : ¬ nx = -9) : u1 33 x = 1 ∧ VP u1 p_ nx ∧ cX u1 nx = cX u1 pl + x % 13 - 6 ∧ cY nx = cY pl + x / 13 - 2 := by
  rcases hj with ⟨q1, q⟩ | q
  · have := PLC_n q h
    exact ⟨q1, this.2⟩
  · exact absurd q.2 h
theorem qnB (hj : (u1 33 x = 1 ∧ PLC u1 p_ (cX u1 pl + x % 13 - 6) (cY pl + x / 13 - 2) nx) ∨ (u1 33 x = 0 ∧ nx = -9)) (h : ¬ nx = -9) (hm : ¬ u1 34 nx = -9) (hq : BQ p_ set_ X_ Y_ u1 n_) (hl : ∀ k, 0 ≤ k → k < n_ → u1 34 (u1 35 k) ≤ u1 34 pl + 1) : u1 33 x = 1 → ∀ Q, VP u1 p_ Q → cX u1 Q = cX u1 pl + x % 13 - 6 → cY Q = cY pl + x / 13 - 2 → ¬ u1 34 Q = -9 ∧ u1 34 Q ≤ u1 34 pl + 1 := by
  intro h1 Q hQ ex ey
  obtain ⟨-, v1, v2, v3⟩ := qnV hj h
  have e : Q = nx := VP_one hQ v1 (by rw [ex, v2]) (by rw [ey, v3])
  rw [e]
  refine ⟨hm, ?_⟩
  rcases hq.2.2.2.1 nx v1.1.1 v1.1.2 with z | ⟨j, j1, j2⟩
  · exact absurd z hm
  · have := hl j j1.1 j1.2
    rw [j2] at this
    exact this
theorem qnC (hst : STb σ set_ 400) (hT : inB p_ X_ Y_) (hpl : VP σ p_ pl ∧ (0 ≤ σ 34 pl ∧ σ 34 pl ≤ 4) ∧ rch p_ set_ X_ Y_ (σ 34 pl).toNat (cX σ pl) (cY pl)) (x0 : 0 ≤ x) (x1 : x < 65) (g2 : ∀ F, F ≠ 34 → F ≠ 35 → u1 F = σ F) (g3 : BQ p_ set_ X_ Y_ u1 n_) (g4 : qa ≤ n_) (g5 : ∀ j, j < qa → u1 35 j = σ 35 j) (g6 : ∀ P, ¬ σ 34 P = -9 → u1 34 P = σ 34 P) (g7 : ∀ k, 0 ≤ k → k < n_ → u1 34 (u1 35 k) ≤ σ 34 pl + 1) (g8 : BN p_ u1 pl x)
    (hj : (u1 33 x = 1 ∧ PLC u1 p_ (cX u1 pl + x % 13 - 6) (cY pl + x / 13 - 2) nx) ∨ (u1 33 x = 0 ∧ nx = -9)) (h : ¬ nx = -9) (hm : u1 34 nx = -9) :
    (0 ≤ x + 1 ∧ x + 1 ≤ 65) ∧ (∀ F, F ≠ 34 → F ≠ 35 → (up (up u1 34 nx (u1 34 pl + 1)) 35 n_ nx) F = σ F) ∧ BQ p_ set_ X_ Y_ (up (up u1 34 nx (u1 34 pl + 1)) 35 n_ nx) (n_ + 1) ∧ qa ≤ n_ + 1 ∧ (∀ j, j < qa → (up (up u1 34 nx (u1 34 pl + 1)) 35 n_ nx) 35 j = σ 35 j) ∧ (∀ P, ¬ σ 34 P = -9 → (up (up u1 34 nx (u1 34 pl + 1)) 35 n_ nx) 34 P = σ 34 P) ∧ (∀ k, 0 ≤ k → k < n_ + 1 → (up (up u1 34 nx (u1 34 pl + 1)) 35 n_ nx) 34 ((up (up u1 34 nx (u1 34 pl + 1)) 35 n_ nx) 35 k) ≤ σ 34 pl + 1) ∧ BN p_ (up (up u1 34 nx (u1 34 pl + 1)) 35 n_ nx) pl (x + 1) := by
  obtain ⟨v0, v1, v2, v3⟩ := qnV hj h
  have e34 : u1 34 pl = σ 34 pl := g6 pl (by omega)
  have hs : ∃ c, (0 ≤ c ∧ c < 400) ∧ stp set_ c ∧ x = sI c := by
    rw [g2 33 (by decide) (by decide)] at v0
    rcases hst x x0 x1 with z | z
    · exact z.2
    · omega
  obtain ⟨c, c1, c2, c3⟩ := hs
  have cd := sI_d c1 c3
  have hr : rch p_ set_ X_ Y_ (u1 34 pl + 1).toNat (cX u1 nx) (cY nx) := by
    have st := rch_step (p := p_) c1 c2 hpl.2.2 (by
      have := v1.2
      rw [v2, v3, cXm g2] at this
      rw [show cX σ pl + dX c = cX σ pl + x % 13 - 6 by omega, show cY pl + dY c = cY pl + x / 13 - 2 by omega]
      exact this)
    rw [show (u1 34 pl + 1).toNat = (σ 34 pl).toNat + 1 by omega, v2, v3, cXm g2, show cX σ pl + x % 13 - 6 = cX σ pl + dX c by omega, show cY pl + x / 13 - 2 = cY pl + dY c by omega]
    exact st
  obtain ⟨b1, b2, b3, b4⟩ := BQ_add g3 v1 hm (e := u1 34 pl + 1) (by omega) (by rw [e34]; exact g7) hr
  refine ⟨by omega, fun F a1 a2 => ?_, b1, by omega, fun j j1 => ?_, fun P hP => ?_, by rw [e34] at b4 ⊢; exact b4, ?_⟩
  · rw [← g2 F a1 a2]
    funext i
    rw [up_f _ _ _ _ a2, up_f _ _ _ _ a1]
  · rw [b2 j (by omega)]; exact g5 j j1
  · rw [b3 P (by rw [g6 P hP]; exact hP)]; exact g6 P hP
  · have plm : ¬ u1 34 pl = -9 := by omega
    refine BN_step x0 (BN_mono (u := u1) rfl rfl b3 plm g8) (fun _ Q hQ ex ey => ?_)
    have e : Q = nx := VP_one (u := u1) hQ v1 (by rw [v2]; exact ex) (by rw [v3]; exact ey)
    rw [e, b3 pl plm]
    have : (up (up u1 34 nx (u1 34 pl + 1)) 35 n_ nx) 34 nx = u1 34 pl + 1 := up_s u1 34 nx (u1 34 pl + 1)
    rw [this]
    omega
theorem ms0 (h3 : ∀ P, 0 ≤ P → P < x → u1 34 P = -9) : ∀ P, 0 ≤ P → P < x + 1 → up u1 34 x (-9) 34 P = -9 := by
  intro P a1 a2
  rw [up_i]
  by_cases q : P = x
  · rw [if_pos q]
  · rw [if_neg q]; exact h3 P a1 (by omega)
variable {first i : Int}
theorem msI (hf : VP σ p_ first ∧ cX σ first = X_ ∧ cY first = Y_) (h2 : ∀ F, F ≠ 34 → F ≠ 35 → u1 F = σ F) (h3 : ∀ P, 0 ≤ P → P < 105 → u1 34 P = -9) : (∀ F, F ≠ 34 → F ≠ 35 → (up (up u1 34 first 0) 35 0 first) F = σ F) ∧ BQ p_ set_ X_ Y_ (up (up u1 34 first 0) 35 0 first) 1 ∧ ((0 : Int) ≤ 0 ∧ (0 : Int) ≤ 1) ∧ ((0 : Int) < 1 → ∀ k, 0 ≤ k → k < 1 → (up (up u1 34 first 0) 35 0 first) 34 ((up (up u1 34 first 0) 35 0 first) 35 k) ≤ (up (up u1 34 first 0) 35 0 first) 34 ((up (up u1 34 first 0) 35 0 first) 35 0) + 1) ∧ (∀ j, 0 ≤ j → j < 0 → (up (up u1 34 first 0) 35 0 first) 34 ((up (up u1 34 first 0) 35 0 first) 35 j) < 5 → BN p_ (up (up u1 34 first 0) 35 0 first) ((up (up u1 34 first 0) 35 0 first) 35 j) 65) ∧ (up (up u1 34 first 0) 35 0 first) 34 first = 0 := by
  have fr : ∀ F, F ≠ 34 → F ≠ 35 → (up (up u1 34 first 0) 35 0 first) F = σ F := by
    intro F a1 a2
    rw [← h2 F a1 a2]
    funext i
    rw [up_f _ _ _ _ a2, up_f _ _ _ _ a1]
  have e0 : (up (up u1 34 first 0) 35 0 first) 35 0 = first := up_s _ 35 0 first
  have e34 : ∀ P, (up (up u1 34 first 0) 35 0 first) 34 P = if P = first then 0 else u1 34 P := fun P => up_i u1 34 first 0 P
  have ef : (up (up u1 34 first 0) 35 0 first) 34 first = 0 := by rw [e34, if_pos rfl]
  have vf := VPm fr hf
  refine ⟨fr, ⟨by omega, ?_, ?_, ?_, ?_⟩, by omega, ?_, fun j j0 j1 => by omega, ef⟩
  · intro j j0 j1
    rw [show j = 0 by omega, e0, ef]
    exact ⟨vf.1, by omega, vf.2.1, vf.2.2⟩
  · intro j k j0 j1 k1; omega
  · intro P P0 P1
    by_cases q : P = first
    · right; exact ⟨0, by omega, by rw [e0, q]⟩
    · left; rw [e34, if_neg q]; exact h3 P P0 P1
  · have z := smI_one (f := fun P => if (up (up u1 34 first 0) 35 0 first) 34 P = -9 then 0 else 1) (g := fun _ => 0) (p := first.toNat) (x := 1) 105 (by have := hf.1.1; omega) (fun k k0 k1 kq => by
      rw [e34, if_neg (show ¬ k = first by have := hf.1.1; omega), if_pos (h3 k k0 (by omega))]) (by
      rw [show ((first.toNat : Nat) : Int) = first by have := hf.1.1; omega, ef]; rfl)
    rw [z, smI_zero (f := fun _ => 0) 105 (fun _ _ _ => rfl)]
    rfl
  · intro _ k k0 k1
    rw [show k = 0 by omega]
    omega
theorem msN (g3 : BQ p_ set_ X_ Y_ u1 n_) (i0 : 0 ≤ i) (g5 : ∀ k, 0 ≤ k → k < n_ → u1 34 (u1 35 k) ≤ u1 34 (u1 35 i) + 1) : i + 1 < n_ → ∀ k, 0 ≤ k → k < n_ → u1 34 (u1 35 k) ≤ u1 34 (u1 35 (i + 1)) + 1 := by
  intro h k k0 k1
  have := g5 k k0 k1
  have := g3.2.2.1 i (i + 1) i0 (by omega) h
  omega
theorem msO (g6 : ∀ j, 0 ≤ j → j < i → u1 34 (u1 35 j) < 5 → BN p_ u1 (u1 35 j) 65) (h : 5 ≤ u1 34 (u1 35 i)) : ∀ j, 0 ≤ j → j < i + 1 → u1 34 (u1 35 j) < 5 → BN p_ u1 (u1 35 j) 65 := by
  intro j j0 j1 hj
  by_cases q : j = i
  · rw [q] at hj; omega
  · exact g6 j j0 (by omega) hj
theorem msS {u81 : St} {r : Int} (g2 : ∀ F, F ≠ 34 → F ≠ 35 → u1 F = σ F) (g3 : BQ p_ set_ X_ Y_ u1 n_) (g4 : 0 ≤ i ∧ i ≤ n_) (hi : i < n_) (g5 : ∀ k, 0 ≤ k → k < n_ → u1 34 (u1 35 k) ≤ u1 34 (u1 35 i) + 1) (g6 : ∀ j, 0 ≤ j → j < i → u1 34 (u1 35 j) < 5 → BN p_ u1 (u1 35 j) 65) (g7 : u1 34 first = 0)
    (hn : ∀ F, F ≠ 34 → F ≠ 35 → u81 F = u1 F) (hq : BQ p_ set_ X_ Y_ u81 r) (hg : n_ ≤ r) (ho : ∀ j, j < n_ → u81 35 j = u1 35 j) (hk : ∀ P, ¬ u1 34 P = -9 → u81 34 P = u1 34 P) (hl : ∀ k, 0 ≤ k → k < r → u81 34 (u81 35 k) ≤ u1 34 (u1 35 i) + 1) (hb : BN p_ u81 (u1 35 i) 65) :
    (∀ F, F ≠ 34 → F ≠ 35 → u81 F = σ F) ∧ BQ p_ set_ X_ Y_ u81 r ∧ (0 ≤ i + 1 ∧ i + 1 ≤ r) ∧ (i + 1 < r → ∀ k, 0 ≤ k → k < r → u81 34 (u81 35 k) ≤ u81 34 (u81 35 (i + 1)) + 1) ∧ (∀ j, 0 ≤ j → j < i + 1 → u81 34 (u81 35 j) < 5 → BN p_ u81 (u81 35 j) 65) ∧ u81 34 first = 0 := by
  have mk : ∀ j, 0 ≤ j → j < n_ → ¬ u1 34 (u1 35 j) = -9 := fun j j0 j1 => by have := (g3.2.1 j j0 j1).2.1; omega
  have od : ∀ j, 0 ≤ j → j < n_ → u81 34 (u81 35 j) = u1 34 (u1 35 j) := fun j j0 j1 => by rw [ho j j1, hk _ (mk j j0 j1)]
  refine ⟨fun F a1 a2 => by rw [hn F a1 a2, g2 F a1 a2], hq, by omega, ?_, ?_, by rw [hk first (by omega)]; exact g7⟩
  · intro h k k0 k1
    have a1 := hl k k0 k1
    have a2 := hq.2.2.1 i (i + 1) g4.1 (by omega) h
    rw [od i g4.1 hi] at a2
    omega
  · intro j j0 j1 hj
    by_cases q : j = i
    · rw [q, ho i hi]; exact hb
    · rw [od j j0 (by omega)] at hj
      rw [ho j (by omega)]
      exact BN_mono (hn 33 (by decide) (by decide)) (hn 31 (by decide) (by decide)) hk (mk j j0 (by omega)) (g6 j j0 (by omega) hj)
end MV
section FS4
variable {u : St} {p_ set_ X_ Y_ x y v w left r : Int}
theorem fsN {P : Int → Prop} {v w : Int} (h : ∀ c, 0 ≤ c → c < 20 * v + w → ¬ P c) (h1 : ¬ P (20 * v + w)) : ∀ c, 0 ≤ c → c < 20 * v + (w + 1) → ¬ P c := by
  intro c c0 c1
  by_cases q : c = 20 * v + w
  · rw [q]; exact h1
  · exact h c c0 (by omega)
theorem fsP (hp : PLC u p_ (x + tw w - tw v) (y + th w - th v) r) (h : r = -9) (hw : 0 ≤ w ∧ w < 20) : ¬ gdC p_ set_ X_ Y_ (left.toNat + 1) x y (20 * v + w) := by
  rintro ⟨-, z, -⟩
  rw [(dX_vw hw).1, (dX_vw hw).2, show x + (tw w - tw v) = x + tw w - tw v by omega, show y + (th w - th v) = y + th w - th v by omega] at z
  rcases hp with q | q
  · exact q.2 z
  · have := q.2.2.1.1; omega
theorem fsQ (hd : DST u p_ set_ X_ Y_) (hl : 0 ≤ left ∧ left ≤ 5) (hp : PLC u p_ (x + tw w - tw v) (y + th w - th v) r) (h : ¬ r = -9) (hr : ¬ u 34 r = left) (hw : 0 ≤ w ∧ w < 20) : ¬ gdC p_ set_ X_ Y_ (left.toNat + 1) x y (20 * v + w) := by
  rintro ⟨-, -, z⟩
  rw [(dX_vw hw).1, (dX_vw hw).2, show x + (tw w - tw v) = x + tw w - tw v by omega, show y + (th w - th v) = y + th w - th v by omega, show left.toNat + 1 - 1 = left.toNat by omega] at z
  obtain ⟨-, v1, v2, v3⟩ := PLC_n hp h
  rw [← v2, ← v3] at z
  have := (DST_is hd v1 (e := left.toNat) (by omega)).mpr z
  omega
theorem fsG (hd : DST u p_ set_ X_ Y_) (hl : 0 ≤ left ∧ left ≤ 5) (hv : 0 ≤ v ∧ v < 20) (hw : 0 ≤ w ∧ w < 20) (hp : PLC u p_ (x + tw w - tw v) (y + th w - th v) r) (h : ¬ r = -9) (hr : u 34 r = left) (h1 : ins set_ v) (h2 : ins set_ w) (hn : ∀ c, 0 ≤ c → c < 20 * v + w → ¬ gdC p_ set_ X_ Y_ (left.toNat + 1) x y c) : fsC p_ set_ X_ Y_ (left.toNat + 1) x y (20 * v + w) := by
  obtain ⟨v0, v1, v2, v3⟩ := PLC_n hp h
  refine ⟨by omega, ⟨(stp_vw hw).mpr ⟨h1, h2⟩, ?_, ?_⟩, hn⟩
  · rw [(dX_vw hw).1, (dX_vw hw).2, show x + (tw w - tw v) = x + tw w - tw v by omega, show y + (th w - th v) = y + th w - th v by omega]
    exact v0
  · rw [(dX_vw hw).1, (dX_vw hw).2, show x + (tw w - tw v) = x + tw w - tw v by omega, show y + (th w - th v) = y + th w - th v by omega, show left.toNat + 1 - 1 = left.toNat by omega, ← v2, ← v3]
    exact (DST_is hd v1 (e := left.toNat) (by omega)).mp (by omega)
variable {d_ : Nat} {i : Int}
theorem rrX (hT : inB p_ X_ Y_) (h0 : 0 ≤ i) (h1 : i < d_) (g3 : lv p_ set_ X_ Y_ (d_ - i.toNat) x y) (hp : (r = -9 ∧ ∀ c, 0 ≤ c → c < 400 → ¬ gdC p_ set_ X_ Y_ (d_ - i.toNat) x y c) ∨ ∃ c, fsC p_ set_ X_ Y_ (d_ - i.toNat) x y c ∧ r = 100 * (c / 20) + c % 20) : ∃ c, fsC p_ set_ X_ Y_ (d_ - i.toNat) x y c ∧ r = 100 * (c / 20) + c % 20 := by
  rcases hp with q | q
  · rw [show d_ - i.toNat = (d_ - i.toNat - 1) + 1 by omega] at g3
    obtain ⟨c, c1, c2⟩ := lv_next hT g3
    rw [show (d_ - i.toNat - 1) + 1 = d_ - i.toNat by omega] at c2
    exact absurd c2 (q.2 c c1.1 c1.2)
  · exact q
theorem rrV {x' y' c : Int} (hT : inB p_ X_ Y_) (h0 : 0 ≤ i) (h1 : i < d_) (g3 : lv p_ set_ X_ Y_ (d_ - i.toNat) x y) (hc : fsC p_ set_ X_ Y_ (d_ - i.toNat) x y c) (hx : x' = x + dX c) (hy : y' = y + dY c) : lv p_ set_ X_ Y_ (d_ - (i + 1).toNat) x' y' := by
  rw [hx, hy, show d_ - (i + 1).toNat = d_ - i.toNat - 1 by omega]
  exact hc.2.1.2.2
theorem rrR {u1 : St} {c : Int} (g4 : ∀ j, 0 ≤ j → j < i → RWk p_ set_ X_ Y_ j.toNat d_ 0 0 (u1 27 j)) (g5 : ∀ k r, RWk p_ set_ X_ Y_ k (d_ - i.toNat) x y r → RWk p_ set_ X_ Y_ (i.toNat + k) d_ 0 0 r) (hc : fsC p_ set_ X_ Y_ (d_ - i.toNat) x y c) (er : r = 100 * (c / 20) + c % 20) : ∀ j, 0 ≤ j → j < i + 1 → RWk p_ set_ X_ Y_ j.toNat d_ 0 0 (up u1 27 i r 27 j) := by
  intro j j0 j1
  rw [up_i]
  by_cases q : j = i
  · rw [if_pos q, q]
    exact g5 0 r ⟨c, hc, er⟩
  · rw [if_neg q]; exact g4 j j0 (by omega)
theorem rrK {x' y' c : Int} (h0 : 0 ≤ i) (h1 : i < d_) (g5 : ∀ k r, RWk p_ set_ X_ Y_ k (d_ - i.toNat) x y r → RWk p_ set_ X_ Y_ (i.toNat + k) d_ 0 0 r) (hc : fsC p_ set_ X_ Y_ (d_ - i.toNat) x y c) (hx : x' = x + dX c) (hy : y' = y + dY c) : ∀ k r, RWk p_ set_ X_ Y_ k (d_ - (i + 1).toNat) x' y' r → RWk p_ set_ X_ Y_ ((i + 1).toNat + k) d_ 0 0 r := by
  intro k r h
  rw [hx, hy, show d_ - (i + 1).toNat = d_ - i.toNat - 1 by omega] at h
  rw [show (i + 1).toNat + k = i.toNat + (k + 1) by omega]
  exact g5 (k + 1) r ⟨c, hc, h⟩
end FS4
/-- the row of PIVOTS that is kept -/
def PR (u : St) : Prop := (u 26 0 = -9 ∧ ∀ X Y, TG (u 28 0) (u 29 0) X Y → ¬ rch (u 28 0) (u 30 0) X Y 5 0 0) ∨ (∃ X Y, TG (u 28 0) (u 29 0) X Y ∧ ∃ d : Nat, d ≤ 5 ∧ lv (u 28 0) (u 30 0) X Y d 0 0 ∧ u 26 0 = d ∧ ∀ j : Int, 0 ≤ j → j < (d : Int) → RWk (u 28 0) (u 30 0) X Y j.toNat d 0 0 (u 27 j))
def PIv (u : St) : Prop := u 28 0 = 0 ∨ (((20 ≤ u 28 0 ∧ u 28 0 ≤ 400) ∧ (20 ≤ u 29 0 ∧ u 29 0 ≤ 400) ∧ (0 ≤ u 30 0 ∧ u 30 0 ≤ 1048575)) ∧ PR u)
theorem PIv_p {u : St} (h : PIv u) : 0 ≤ u 28 0 ∧ u 28 0 ≤ 400 := by
  rcases h with q | q
  · omega
  · have := q.1.1; omega
theorem PIv_q {u : St} (h : PIv u) (h0 : ¬ u 28 0 = 0) : (20 ≤ u 29 0 ∧ u 29 0 ≤ 400) ∧ (0 ≤ u 30 0 ∧ u 30 0 ≤ 1048575) := by
  rcases h with q | q
  · exact absurd q h0
  · exact q.1.2
theorem PIv_r {u : St} (h : PIv u) (h0 : ¬ u 28 0 = 0) : PR u := by
  rcases h with q | q
  · exact absurd q h0
  · exact q.2
theorem PR_rng {u : St} (h : PR u) : -9 ≤ u 26 0 ∧ u 26 0 ≤ 5 := by
  rcases h with q | ⟨X, Y, -, d, d1, -, d3, -⟩
  · omega
  · omega
section FN
variable {σ u66 u70 u112 u154 : St} {fp fq fs : Int}
theorem fnA : ∀ F, F < 26 → (up (up (up (up σ 28 0 fp) 29 0 fq) 30 0 fs) 26 0 (-9)) F = σ F := by
  intro F hF
  funext i
  rw [up_f _ _ _ _ (by omega), up_f _ _ _ _ (by omega), up_f _ _ _ _ (by omega), up_f _ _ _ _ (by omega)]
theorem fnB (h1 : ∀ F, F ≠ 31 → F ≠ 32 → u66 F = (up (up (up (up σ 28 0 fp) 29 0 fq) 30 0 fs) 26 0 (-9)) F) (h2 : ∀ F, F ≠ 33 → u70 F = u66 F) (h3 : ∀ F, F ≠ 34 → F ≠ 35 → u112 F = u70 F) : ∀ F, F < 26 → u112 F = σ F := by
  intro F hF
  rw [h3 F (by omega) (by omega), h2 F (by omega), h1 F (by omega) (by omega)]
  exact fnA F hF
theorem fiF {x y r : Int} (h : PLC u70 fp x y r) (hT : inB fp x y) : VP u70 fp r ∧ cX u70 r = x ∧ cY r = y := by
  rcases h with q | q
  · exact absurd hT q.2
  · exact q.2.2
theorem fiD {XX YY x y r : Int} (hd : DST u112 fp fs XX YY) (pn : inB fp x y ∧ VP u112 fp r ∧ cX u112 r = x ∧ cY r = y) (h : ¬ u112 34 r = -9) : ∃ d : Nat, d ≤ 5 ∧ u112 34 r = d ∧ lv fp fs XX YY d x y := by
  rcases hd r pn.2.1 with q | ⟨d, d1, d2, d3⟩
  · exact absurd q.1 h
  · rw [pn.2.2.1, pn.2.2.2] at d3
    exact ⟨d, d1, d2, d3⟩
theorem in00 {p : Int} (hp : 20 ≤ p ∧ p ≤ 400) : inB p 0 0 := by
  unfold inB
  simp
  omega
theorem fnX1 {XX YY r : Int} (h1 : ∀ F, F ≠ 31 → F ≠ 32 → u66 F = (up (up (up (up σ 28 0 fp) 29 0 fq) 30 0 fs) 26 0 (-9)) F) (h2 : ∀ F, F ≠ 33 → u70 F = u66 F) (h3 : ∀ F, F ≠ 34 → F ≠ 35 → u112 F = u70 F) (p28 : u70 28 0 = fp) (q28 : u70 29 0 = fq) (s28 : u70 30 0 = fs) (f26 : u112 26 0 = -9) (hr : (20 ≤ fp ∧ fp ≤ 400) ∧ (20 ≤ fq ∧ fq ≤ 400) ∧ (0 ≤ fs ∧ fs ≤ 1048575)) (tg : TG fp fq XX YY) (hd : DST u112 fp fs XX YY) (hp : PLC u112 fp 0 0 r) (h9 : r = -9) : (∀ F, F < 26 → u112 F = σ F) ∧ u112 28 0 = fp ∧ u112 29 0 = fq ∧ u112 30 0 = fs ∧ PR u112 := by
  rcases hp with q | q
  · exact absurd (in00 hr.1) q.2
  · have := q.2.2.1.1; omega
theorem fnX2 {XX YY r : Int} (h1 : ∀ F, F ≠ 31 → F ≠ 32 → u66 F = (up (up (up (up σ 28 0 fp) 29 0 fq) 30 0 fs) 26 0 (-9)) F) (h2 : ∀ F, F ≠ 33 → u70 F = u66 F) (h3 : ∀ F, F ≠ 34 → F ≠ 35 → u112 F = u70 F) (p28 : u70 28 0 = fp) (q28 : u70 29 0 = fq) (s28 : u70 30 0 = fs) (f26 : u112 26 0 = -9) (hr : (20 ≤ fp ∧ fp ≤ 400) ∧ (20 ≤ fq ∧ fq ≤ 400) ∧ (0 ≤ fs ∧ fs ≤ 1048575)) (tg : TG fp fq XX YY) (hd : DST u112 fp fs XX YY) (pn : inB fp 0 0 ∧ VP u112 fp r ∧ cX u112 r = 0 ∧ cY r = 0) (h9 : u112 34 r = -9) : (∀ F, F < 26 → u112 F = σ F) ∧ u112 28 0 = fp ∧ u112 29 0 = fq ∧ u112 30 0 = fs ∧ PR u112 := by
  have e28 : u112 28 0 = fp := by rw [h3 28 (by decide) (by decide)]; exact p28
  have e29 : u112 29 0 = fq := by rw [h3 29 (by decide) (by decide)]; exact q28
  have e30 : u112 30 0 = fs := by rw [h3 30 (by decide) (by decide)]; exact s28
  refine ⟨fnB h1 h2 h3, e28, e29, e30, Or.inl ⟨f26, fun X Y z => ?_⟩⟩
  rw [e28, e29] at z
  obtain ⟨rfl, rfl⟩ := TG_one hr.1 hr.2.1 tg z
  rw [e28, e30]
  rcases hd r pn.2.1 with q | ⟨d, d1, d2, d3⟩
  · rw [pn.2.2.1, pn.2.2.2] at q; exact q.2
  · omega
theorem fnX3 {XX YY r : Int} {dg : Nat} (h1 : ∀ F, F ≠ 31 → F ≠ 32 → u66 F = (up (up (up (up σ 28 0 fp) 29 0 fq) 30 0 fs) 26 0 (-9)) F) (h2 : ∀ F, F ≠ 33 → u70 F = u66 F) (h3 : ∀ F, F ≠ 34 → F ≠ 35 → u112 F = u70 F) (h4 : ∀ F, F ≠ 27 → u154 F = (up u112 26 0 (u112 34 r)) F) (p28 : u70 28 0 = fp) (q28 : u70 29 0 = fq) (s28 : u70 30 0 = fs) (tg : TG fp fq XX YY) (dg1 : dg ≤ 5) (dg2 : lv fp fs XX YY dg 0 0) (dg3 : u112 34 r = dg) (hrw : ∀ j : Int, 0 ≤ j → j < (dg : Int) → RWk fp fs XX YY j.toNat dg 0 0 (u154 27 j)) : (∀ F, F < 26 → u154 F = σ F) ∧ u154 28 0 = fp ∧ u154 29 0 = fq ∧ u154 30 0 = fs ∧ PR u154 := by
  have e28 : u154 28 0 = fp := by rw [h4 28 (by decide)]; show u112 28 0 = fp; rw [h3 28 (by decide) (by decide)]; exact p28
  have e29 : u154 29 0 = fq := by rw [h4 29 (by decide)]; show u112 29 0 = fq; rw [h3 29 (by decide) (by decide)]; exact q28
  have e30 : u154 30 0 = fs := by rw [h4 30 (by decide)]; show u112 30 0 = fs; rw [h3 30 (by decide) (by decide)]; exact s28
  have e26 : u154 26 0 = dg := by rw [h4 26 (by decide), up_s]; exact dg3
  refine ⟨fun F hF => ?_, e28, e29, e30, Or.inr ?_⟩
  · rw [h4 F (by omega), ← fnB h1 h2 h3 F hF]
    funext i
    exact up_f _ _ _ _ (by omega)
  · rw [e28, e29, e30, e26]
    exact ⟨XX, YY, tg, dg, dg1, dg2, rfl, hrw⟩
theorem fnI {u : St} (h : (20 ≤ fp ∧ fp ≤ 400) ∧ (20 ≤ fq ∧ fq ≤ 400) ∧ (0 ≤ fs ∧ fs ≤ 1048575)) (e1 : u 28 0 = fp) (e2 : u 29 0 = fq) (e3 : u 30 0 = fs) (hr : PR u) : PIv u := Or.inr ⟨by rw [e1, e2, e3]; exact h, hr⟩
theorem fnR {u : St} {k : Int} (hr : PR u) (e1 : u 28 0 = fp) (e2 : u 29 0 = fq) (e3 : u 30 0 = fs) : (((20 ≤ fp ∧ fp ≤ 400) ∧ (20 ≤ fq ∧ fq ≤ 400) ∧ (0 ≤ fs ∧ fs ≤ 1048575) ∧ (-1 ≤ k ∧ k ≤ 4)) → k = -1 → fPivots fp fq fs k (u 26 0)) ∧ (((20 ≤ fp ∧ fp ≤ 400) ∧ (20 ≤ fq ∧ fq ≤ 400) ∧ (0 ≤ fs ∧ fs ≤ 1048575) ∧ (-1 ≤ k ∧ k ≤ 4)) → 0 ≤ k → k < u 26 0 → fPivots fp fq fs k (u 27 k)) ∧ (((20 ≤ fp ∧ fp ≤ 400) ∧ (20 ≤ fq ∧ fq ≤ 400) ∧ (0 ≤ fs ∧ fs ≤ 1048575) ∧ (-1 ≤ k ∧ k ≤ 4)) → u 26 0 ≤ k → fPivots fp fq fs k (-9)) := by
  unfold PR at hr
  rw [e1, e2, e3] at hr
  rcases hr with q | ⟨X, Y, t1, d, d1, d2, d3, d4⟩
  · refine ⟨fun h hk => Or.inr (Or.inl ⟨h, q.2, q.1⟩), fun h h0 h1 => by omega, fun h h0 => Or.inr (Or.inl ⟨h, q.2, rfl⟩)⟩
  · refine ⟨fun h hk => Or.inr (Or.inr ⟨h, X, Y, t1, d, d1, d2, Or.inl ⟨hk, d3⟩⟩), fun h h0 h1 => Or.inr (Or.inr ⟨h, X, Y, t1, d, d1, d2, Or.inr (Or.inr ⟨by omega, d4 k h0 (by omega)⟩)⟩), fun h h0 => Or.inr (Or.inr ⟨h, X, Y, t1, d, d1, d2, Or.inr (Or.inl ⟨by omega, rfl⟩)⟩)⟩
end FN

set_option maxHeartbeats 4000000 in
set_option maxRecDepth 100000 in
theorem kX4_inSet (l : Launch) (D : va_G) (E : Nat → Nat) (q : Nat → Nat) (σ : St) (v : Int) (hr : (0 ≤ σ 30 0 ∧ σ 30 0 ≤ 1048575) ∧ (0 ≤ v ∧ v < 20)) : CtI l D E yX4_inSet wsX4_inSet ({ frames := 0, cells := 0, slots := 0, locals := 0 } : Room) [.ref (q 40), .int (jI v)] (CW E q σ) (CW E q) (fun (rv : Int) (uu : St) => σ = uu ∧ ((rv = 1 ∧ (ins (σ 30 0) v)) ∨ (rv = 0 ∧ ¬ (ins (σ 30 0) v)))) := by
  refine mk_I (cc := cX4_inSet) (maxL := 2) (ret := some .boolean) (by decide) rfl (Nat.le_of_ble_eq_true rfl) ?_
  intro p e s m args below meth c A X hret
  have hin4 : ∀ x ∈ u_ws RX4 TX4 10, x ∈ wsX4_inSet := fun _ h => List.mem_cons_of_mem _ (List.mem_append_right _ h)
  refine z_lv (lv' := [(0, .ref (q 40)), (1, .int (jI v))]) [0, 1] rfl ?_
  have hs := iShl1_rng (k := v) (by omega)
  have ha := iAnd_rng (σ 30 0) (iShl 1 v)
  refine z_aload_n (pc' := 1) X dX4_inSet_0 rfl 0 rfl rfl ?_
  refine z_get (pc' := 4) (C := RX4) (ref := "PivotBeats$PivotRow") (T := TX4) (N := 10) (v := .int (jI (σ 30 0))) X dX4_inSet_1 rfl hin4 5 rfl rfl 4 (by decide) (by decide +kernel) rfl rfl ?_
  refine z_iconst (pc' := 5) X dX4_inSet_4 rfl ?_
  refine z_iload_n (pc' := 6) X dX4_inSet_5 rfl 1 rfl rfl ?_
  refine z_ishl (pc' := 7) X dX4_inSet_6 rfl (by omega) ?_
  refine z_iand (pc' := 8) X dX4_inSet_7 rfl (by omega) ?_
  refine z_if_eq (tgt := 15) (pc' := 11) X dX4_inSet_8 (by decide) rfl (by omega) (fun h8 => ?_) (fun h8 => ?_)
  · refine z_iconst (pc' := 16) X dX4_inSet_15 rfl ?_
    exact z_zret (post := (fun (rv : Int) (uu : St) => σ = uu ∧ ((rv = 1 ∧ (ins (σ 30 0) v)) ∨ (rv = 0 ∧ ¬ (ins (σ 30 0) v))))) X dX4_inSet_16 hret σ (by first | decide | omega) (⟨rfl, by first | exact Or.inl ⟨rfl, ins_and.mp h8⟩ | exact Or.inr ⟨rfl, fun z => ins_and.mpr z h8⟩⟩)
  · refine z_iconst (pc' := 12) X dX4_inSet_11 rfl ?_
    refine z_goto (tgt := 16) X dX4_inSet_12 (by decide) ?_
    exact z_zret (post := (fun (rv : Int) (uu : St) => σ = uu ∧ ((rv = 1 ∧ (ins (σ 30 0) v)) ∨ (rv = 0 ∧ ¬ (ins (σ 30 0) v))))) X dX4_inSet_16 hret σ (by first | decide | omega) (⟨rfl, by first | exact Or.inl ⟨rfl, ins_and.mp h8⟩ | exact Or.inr ⟨rfl, fun z => ins_and.mpr z h8⟩⟩)
set_option maxHeartbeats 4000000 in
set_option maxRecDepth 100000 in
theorem kX4_placeOf (l : Launch) (D : va_G) (E : Nat → Nat) (q : Nat → Nat) (σ : St) (x y : Int) (p_ : Int) (hl : LY σ p_) (hr : (-1000 ≤ x ∧ x ≤ 1000) ∧ (-1000 ≤ y ∧ y ≤ 1000)) : CtI l D E yX4_placeOf wsX4_placeOf ({ frames := 0, cells := 0, slots := 0, locals := 0 } : Room) [.ref (q 40), .int (jI x), .int (jI y)] (CW E q σ) (CW E q) (fun (rv : Int) (uu : St) => σ = uu ∧ (PLC σ p_ x y rv)) := by
  refine mk_I (cc := cX4_placeOf) (maxL := 5) (ret := some .int) (by decide) rfl (Nat.le_of_ble_eq_true rfl) ?_
  intro p e s m args below meth c A X hret
  have hin4 : ∀ x ∈ u_ws RX4 TX4 10, x ∈ wsX4_placeOf := fun _ h => List.mem_cons_of_mem _ (List.mem_append_right _ h)
  refine z_lv (lv' := [(0, .ref (q 40)), (1, .int (jI x)), (2, .int (jI y))]) [0, 1, 2] rfl ?_
  refine z_iload_n (pc' := 1) X dX4_placeOf_0 rfl 2 rfl rfl ?_
  refine z_bipush (pc' := 3) X dX4_placeOf_1 rfl rfl ?_
  refine z_iadd (pc' := 4) X dX4_placeOf_3 rfl ?_
  refine z_istore_n (pc' := 5) (lv' := [(3, .int (jI (y + 10))), (0, .ref (q 40)), (1, .int (jI x)), (2, .int (jI y))]) X dX4_placeOf_4 rfl rfl (by decide) rfl ?_
  refine z_iload_n (pc' := 6) X dX4_placeOf_5 rfl 0 rfl rfl ?_
  refine z_if_lt (tgt := 15) (pc' := 9) X dX4_placeOf_6 (by decide) rfl (by omega) (fun h6 => ?_) (fun h6 => ?_)
  · refine z_bipush (pc' := 17) X dX4_placeOf_15 rfl rfl ?_
    exact z_iret (post := (fun (rv : Int) (uu : St) => σ = uu ∧ (PLC σ p_ x y rv))) X dX4_placeOf_17 hret σ (⟨rfl, PLC_c (by omega)⟩)
  · refine z_iload_n (pc' := 10) X dX4_placeOf_9 rfl 0 rfl rfl ?_
    refine z_bipush (pc' := 12) X dX4_placeOf_10 rfl rfl ?_
    refine z_icmp_lt (tgt := 18) (pc' := 15) X dX4_placeOf_12 (by decide) rfl (by omega) (fun h12 => ?_) (fun h12 => ?_)
    · have lr := hl (y + 10) (by omega) (by omega)
      have lt := lr.1
      have lw := lr.2.1
      refine z_iload_n (pc' := 19) X dX4_placeOf_18 rfl 2 rfl rfl ?_
      refine z_aload_n (pc' := 20) X dX4_placeOf_19 rfl 1 rfl rfl ?_
      refine z_get (pc' := 23) (C := RX4) (ref := "PivotBeats$PivotRow") (T := TX4) (N := 10) (v := .ref (q 31)) X dX4_placeOf_20 rfl hin4 5 rfl rfl 5 (by decide) (by decide +kernel) rfl rfl ?_
      refine z_iload_n (pc' := 24) X dX4_placeOf_23 rfl 0 rfl rfl ?_
      refine z_iald (pc' := 25) (f := σ 31) (n := 21) X dX4_placeOf_24 rfl 25 rfl (by decide) (by omega) ?_
      refine z_isub (pc' := 26) X dX4_placeOf_25 rfl ?_
      refine z_istore (pc' := 28) (lv' := [(4, .int (jI (x - (σ 31 (y + 10))))), (3, .int (jI (y + 10))), (0, .ref (q 40)), (1, .int (jI x)), (2, .int (jI y))]) X dX4_placeOf_26 rfl (by decide) rfl ?_
      refine z_iload (pc' := 30) X dX4_placeOf_28 rfl 0 rfl ?_
      refine z_if_lt (tgt := 53) (pc' := 33) X dX4_placeOf_30 (by decide) rfl (by omega) (fun h30 => ?_) (fun h30 => ?_)
      · refine z_bipush (pc' := 55) X dX4_placeOf_53 rfl rfl ?_
        exact z_iret (post := (fun (rv : Int) (uu : St) => σ = uu ∧ (PLC σ p_ x y rv))) X dX4_placeOf_55 hret σ (by first | exact ⟨rfl, by rw [show (y + 10) * 5 = 5 * (y + 10) by omega]; exact PLC_a hl (by omega) h30 (by omega)⟩ | exact ⟨rfl, PLC_b hl (by omega) (by omega)⟩)
      · refine z_iload (pc' := 35) X dX4_placeOf_33 rfl 0 rfl ?_
        refine z_aload_n (pc' := 36) X dX4_placeOf_35 rfl 2 rfl rfl ?_
        refine z_get (pc' := 39) (C := RX4) (ref := "PivotBeats$PivotRow") (T := TX4) (N := 10) (v := .ref (q 32)) X dX4_placeOf_36 rfl hin4 5 rfl rfl 6 (by decide) (by decide +kernel) rfl rfl ?_
        refine z_iload_n (pc' := 40) X dX4_placeOf_39 rfl 1 rfl rfl ?_
        refine z_iald (pc' := 41) (f := σ 32) (n := 21) X dX4_placeOf_40 rfl 26 rfl (by decide) (by omega) ?_
        refine z_icmp_ge (tgt := 53) (pc' := 44) X dX4_placeOf_41 (by decide) rfl (by omega) (fun h41 => ?_) (fun h41 => ?_)
        · refine z_bipush (pc' := 55) X dX4_placeOf_53 rfl rfl ?_
          exact z_iret (post := (fun (rv : Int) (uu : St) => σ = uu ∧ (PLC σ p_ x y rv))) X dX4_placeOf_55 hret σ (by first | exact ⟨rfl, by rw [show (y + 10) * 5 = 5 * (y + 10) by omega]; exact PLC_a hl (by omega) h30 (by omega)⟩ | exact ⟨rfl, PLC_b hl (by omega) (by omega)⟩)
        · refine z_iload_n (pc' := 45) X dX4_placeOf_44 rfl 1 rfl rfl ?_
          refine z_iconst (pc' := 46) X dX4_placeOf_45 rfl ?_
          refine z_imul (pc' := 47) X dX4_placeOf_46 rfl ?_
          refine z_iload (pc' := 49) X dX4_placeOf_47 rfl 0 rfl ?_
          refine z_iadd (pc' := 50) X dX4_placeOf_49 rfl ?_
          refine z_goto (tgt := 55) X dX4_placeOf_50 (by decide) ?_
          exact z_iret (post := (fun (rv : Int) (uu : St) => σ = uu ∧ (PLC σ p_ x y rv))) X dX4_placeOf_55 hret σ (by first | exact ⟨rfl, by rw [show (y + 10) * 5 = 5 * (y + 10) by omega]; exact PLC_a hl (by omega) h30 (by omega)⟩ | exact ⟨rfl, PLC_b hl (by omega) (by omega)⟩)
    · refine z_bipush (pc' := 17) X dX4_placeOf_15 rfl rfl ?_
      exact z_iret (post := (fun (rv : Int) (uu : St) => σ = uu ∧ (PLC σ p_ x y rv))) X dX4_placeOf_17 hret σ (⟨rfl, PLC_c (by omega)⟩)
set_option maxHeartbeats 4000000 in
set_option maxRecDepth 100000 in
theorem kX4_twosAt (l : Launch) (D : va_G) (E : Nat → Nat) (q : Nat → Nat) (σ : St) (pl : Int) (hr : 0 ≤ pl ∧ pl < 105) : CtI l D E yX4_twosAt wsX4_twosAt ({ frames := 0, cells := 0, slots := 0, locals := 0 } : Room) [.ref (q 40), .int (jI pl)] (CW E q σ) (CW E q) (fun (rv : Int) (uu : St) => σ = uu ∧ rv = cX σ pl) := by
  refine mk_I (cc := cX4_twosAt) (maxL := 2) (ret := some .int) (by decide) rfl (Nat.le_of_ble_eq_true rfl) ?_
  intro p e s m args below meth c A X hret
  have hin4 : ∀ x ∈ u_ws RX4 TX4 10, x ∈ wsX4_twosAt := fun _ h => List.mem_cons_of_mem _ (List.mem_append_right _ h)
  refine z_lv (lv' := [(0, .ref (q 40)), (1, .int (jI pl))]) [0, 1] rfl ?_
  refine z_aload_n (pc' := 1) X dX4_twosAt_0 rfl 0 rfl rfl ?_
  refine z_get (pc' := 4) (C := RX4) (ref := "PivotBeats$PivotRow") (T := TX4) (N := 10) (v := .ref (q 31)) X dX4_twosAt_1 rfl hin4 5 rfl rfl 5 (by decide) (by decide +kernel) rfl rfl ?_
  refine z_iload_n (pc' := 5) X dX4_twosAt_4 rfl 1 rfl rfl ?_
  refine z_iconst (pc' := 6) X dX4_twosAt_5 rfl ?_
  refine z_idiv (pc' := 7) X dX4_twosAt_6 rfl (by omega) ?_
  refine z_iald (pc' := 8) (f := σ 31) (n := 21) X dX4_twosAt_7 rfl 25 rfl (by decide) (by omega) ?_
  refine z_iload_n (pc' := 9) X dX4_twosAt_8 rfl 1 rfl rfl ?_
  refine z_iconst (pc' := 10) X dX4_twosAt_9 rfl ?_
  refine z_irem (pc' := 11) X dX4_twosAt_10 rfl (by omega) ?_
  refine z_iadd (pc' := 12) X dX4_twosAt_11 rfl ?_
  exact z_iret (post := (fun (rv : Int) (uu : St) => σ = uu ∧ rv = cX σ pl)) X dX4_twosAt_12 hret σ (⟨rfl, by first | rfl | omega⟩)
set_option maxHeartbeats 4000000 in
set_option maxRecDepth 100000 in
theorem kX4_threesAt (l : Launch) (D : va_G) (E : Nat → Nat) (q : Nat → Nat) (σ : St) (pl : Int) (hr : 0 ≤ pl ∧ pl < 105) : CtI l D E yX4_threesAt wsX4_threesAt ({ frames := 0, cells := 0, slots := 0, locals := 0 } : Room) [.ref (q 40), .int (jI pl)] (CW E q σ) (CW E q) (fun (rv : Int) (uu : St) => σ = uu ∧ rv = cY pl) := by
  refine mk_I (cc := cX4_threesAt) (maxL := 2) (ret := some .int) (by decide) rfl (Nat.le_of_ble_eq_true rfl) ?_
  intro p e s m args below meth c A X hret
  refine z_lv (lv' := [(0, .ref (q 40)), (1, .int (jI pl))]) [0, 1] rfl ?_
  refine z_iload_n (pc' := 1) X dX4_threesAt_0 rfl 1 rfl rfl ?_
  refine z_iconst (pc' := 2) X dX4_threesAt_1 rfl ?_
  refine z_idiv (pc' := 3) X dX4_threesAt_2 rfl (by omega) ?_
  refine z_bipush (pc' := 5) X dX4_threesAt_3 rfl rfl ?_
  refine z_isub (pc' := 6) X dX4_threesAt_5 rfl ?_
  exact z_iret (post := (fun (rv : Int) (uu : St) => σ = uu ∧ rv = cY pl)) X dX4_threesAt_6 hret σ (⟨rfl, by first | rfl | omega⟩)
set_option maxHeartbeats 4000000 in
set_option maxRecDepth 100000 in
theorem kX4_layOutPlaces (l : Launch) (D : va_G) (E : Nat → Nat) (q : Nat → Nat) (σ : St) (hp : 20 ≤ σ 28 0 ∧ σ 28 0 ≤ 400) : CtV l D E yX4_layOutPlaces wsX4_layOutPlaces ({ frames := 1, cells := 0, slots := 0, locals := 25 } : Room) [.ref (q 40)] (CW E q σ) (CW E q) (fun (uu : St) => (∀ F, F ≠ 31 → F ≠ 32 → uu F = σ F) ∧ LY uu (σ 28 0)) := by
  refine mk_V (cc := cX4_layOutPlaces) (maxL := 7) (ret := none) (by decide) rfl (Nat.le_of_ble_eq_true rfl) ?_
  intro p e s m args below meth c A X hret
  have hin4 : ∀ x ∈ u_ws RX4 TX4 10, x ∈ wsX4_layOutPlaces := fun _ h => List.mem_cons_of_mem _ (List.mem_append_right _ h)
  refine z_lv (lv' := [(0, .ref (q 40))]) [0] rfl ?_
  refine z_iconst (pc' := 1) X dX4_layOutPlaces_0 rfl ?_
  refine z_istore_n (pc' := 2) (lv' := [(1, .int (jI 0)), (0, .ref (q 40))]) X dX4_layOutPlaces_1 rfl rfl (by decide) rfl ?_
  have lp2 : ∀ (nF : Nat) (r : Int) (u1 : St) , ((0 ≤ r ∧ r ≤ 21) ∧ (∀ F, F ≠ 31 → F ≠ 32 → u1 F = σ F) ∧ ∀ s, 0 ≤ s → s < r → LYo (σ 28 0) (s - 10) (u1 31 s) (u1 32 s)) → ((21 - r).toNat : Nat) < nF → J p l e (headSpec wsX4_layOutPlaces ({ frames := 1, cells := 0, slots := 0, locals := 25 } : Room)).room s m args below meth c D A 7 (MQ below (va_Qv (fun (uu : St) => (∀ F, F ≠ 31 → F ≠ 32 → uu F = σ F) ∧ LY uu (σ 28 0)) (Bw D (CW E q) A) A) args s 0 0 A) 2 [(1, .int (jI r)), (0, .ref (q 40))] [] (CW E q u1) := by
    intro nF
    induction nF with
    | zero => intro r u1  hI hn; exact absurd hn (Nat.not_lt_zero _)
    | succ nF ih2 =>
      intro r u1  hI hn
      obtain ⟨h1, h2, h3⟩ := hI
      have e28 : u1 28 0 = σ 28 0 := by rw [h2 28 (by decide) (by decide)]
      refine z_iload_n (pc' := 3) X dX4_layOutPlaces_2 rfl 0 rfl rfl ?_
      refine z_bipush (pc' := 5) X dX4_layOutPlaces_3 rfl rfl ?_
      refine z_icmp_ge (tgt := 142) (pc' := 8) X dX4_layOutPlaces_5 (by decide) rfl (by omega) (fun h5 => ?_) (fun h5 => ?_)
      · exact z_vret (post := (fun (uu : St) => (∀ F, F ≠ 31 → F ≠ 32 → uu F = σ F) ∧ LY uu (σ 28 0))) X dX4_layOutPlaces_142 hret u1 (⟨h2, fun s s0 s1 => h3 s s0 (by omega)⟩)
      · refine z_aload_n (pc' := 9) X dX4_layOutPlaces_8 rfl 1 rfl rfl ?_
        refine z_get (pc' := 12) (C := RX4) (ref := "PivotBeats$PivotRow") (T := TX4) (N := 10) (v := .int (jI (u1 28 0))) X dX4_layOutPlaces_9 rfl hin4 5 rfl rfl 2 (by decide) (by decide +kernel) rfl rfl ?_
        refine z_i2l (pc' := 13) X dX4_layOutPlaces_12 rfl (by omega) ?_
        refine z_ldc2 (pc' := 16) (x := 3) X dX4_layOutPlaces_13 rfl (by decide +kernel) rfl ?_
        refine z_iload_n (pc' := 17) X dX4_layOutPlaces_16 rfl 0 rfl rfl ?_
        refine z_bipush (pc' := 19) X dX4_layOutPlaces_17 rfl rfl ?_
        refine z_isub (pc' := 20) X dX4_layOutPlaces_19 rfl ?_
        refine z_callPNL (pc' := 23) (S := Unit) (As := [.long (jL 3), .int (jI (r - 10))]) (rest := [.long (jL (u1 28 0))]) X dX4_layOutPlaces_20 rfl (kX5_power l D E 3 (r - 10)  (by omega)) ⟨va_cnB 2 X.1.2.2.2.2 gX4_layOutPlaces_X5_power_n70 rfl rfl rfl (X.2.2.2.1.2.2.2 ("PivotBeats$PivotRow", 70, ⟨"PivotBeats", "power", "(JI)J"⟩) (by decide +kernel)) (X.1.2.2.2.2 _ (by decide +kernel)) (by decide +kernel) ⟨Nat.le_of_ble_eq_true rfl, Nat.le_of_ble_eq_true rfl⟩, X.1.2.2.2.2 _ (by decide +kernel), trivial⟩ rfl rfl (Nat.le_of_ble_eq_true rfl) (fun r20 u20 hp20 => ?_)
        replace hp20 := hp20.symm; subst hp20
        refine z_lmul (pc' := 24) X dX4_layOutPlaces_23 rfl ?_
        refine z_lstore_n (pc' := 25) (lv' := [(2, .long (jL ((u1 28 0) * (3 ^ (r - 10).toNat)))), (1, .int (jI r)), (0, .ref (q 40))]) X dX4_layOutPlaces_24 rfl rfl (by decide) rfl ?_
        refine z_ldc2 (pc' := 28) (x := 3) X dX4_layOutPlaces_25 rfl (by decide +kernel) rfl ?_
        refine z_bipush (pc' := 30) X dX4_layOutPlaces_28 rfl rfl ?_
        refine z_iload_n (pc' := 31) X dX4_layOutPlaces_30 rfl 1 rfl rfl ?_
        refine z_isub (pc' := 32) X dX4_layOutPlaces_31 rfl ?_
        refine z_callPNL (pc' := 35) (S := Unit) (As := [.long (jL 3), .int (jI (10 - r))]) (rest := []) X dX4_layOutPlaces_32 rfl (kX5_power l D E 3 (10 - r)  (by omega)) ⟨va_cnB 2 X.1.2.2.2.2 gX4_layOutPlaces_X5_power_n70 rfl rfl rfl (X.2.2.2.1.2.2.2 ("PivotBeats$PivotRow", 70, ⟨"PivotBeats", "power", "(JI)J"⟩) (by decide +kernel)) (X.1.2.2.2.2 _ (by decide +kernel)) (by decide +kernel) ⟨Nat.le_of_ble_eq_true rfl, Nat.le_of_ble_eq_true rfl⟩, X.1.2.2.2.2 _ (by decide +kernel), trivial⟩ rfl rfl (Nat.le_of_ble_eq_true rfl) (fun r32 u32 hp32 => ?_)
        replace hp32 := hp32.symm; subst hp32
        refine z_lstore (pc' := 37) (lv' := [(4, .long (jL (3 ^ (10 - r).toNat))), (2, .long (jL ((u1 28 0) * (3 ^ (r - 10).toNat)))), (1, .int (jI r)), (0, .ref (q 40))]) X dX4_layOutPlaces_35 rfl (by decide) rfl ?_
        have hU3 := pow_le3 (show (r - 10).toNat ≤ 10 by omega)
        have hL3 := pow_le3 (show (10 - r).toNat ≤ 10 by omega)
        have p10 : (3 : Int) ^ 10 = 59049 := by decide
        rw [p10] at hU3 hL3
        have hm := mul_bd (a := σ 28 0) (b := 3 ^ (r - 10).toNat) (A := 400) (B := 59049) (by omega) (by omega)
        have hm2 : 20 ≤ σ 28 0 * 3 ^ (r - 10).toNat := by have z := Int.mul_le_mul_of_nonneg_left hU3.1 (show 0 ≤ σ 28 0 by omega); rw [Int.mul_one] at z; omega
        refine z_iconst (pc' := 38) X dX4_layOutPlaces_37 rfl ?_
        refine z_istore (pc' := 40) (lv' := [(6, .int (jI 0)), (4, .long (jL (3 ^ (10 - r).toNat))), (2, .long (jL ((u1 28 0) * (3 ^ (r - 10).toNat)))), (1, .int (jI r)), (0, .ref (q 40))]) X dX4_layOutPlaces_38 rfl (by decide) rfl ?_
        have lp40 : ∀ (nF : Nat) (t : Int) (U : Int) , ((0 ≤ t ∧ t ≤ 17) ∧ U = σ 28 0 * 3 ^ (r - 10).toNat * 2 ^ t.toNat ∧ (t = 0 ∨ U < 40 * 3 ^ (10 - r).toNat) ∧ (20 ≤ U ∧ U ≤ 23619600) ∧ 20 * 2 ^ t.toNat ≤ U) → ((64 - t).toNat : Nat) < nF → J p l e (headSpec wsX4_layOutPlaces ({ frames := 1, cells := 0, slots := 0, locals := 25 } : Room)).room s m args below meth c D A 7 (MQ below (va_Qv (fun (uu : St) => (∀ F, F ≠ 31 → F ≠ 32 → uu F = σ F) ∧ LY uu (σ 28 0)) (Bw D (CW E q) A) A) args s 0 0 A) 40 [(6, .int (jI t)), (4, .long (jL (3 ^ (10 - r).toNat))), (2, .long (jL U)), (1, .int (jI r)), (0, .ref (q 40))] [] (CW E q u1) := by
          intro nF
          induction nF with
          | zero => intro t U  hI hn; exact absurd hn (Nat.not_lt_zero _)
          | succ nF ih40 =>
            intro t U  hI hn
            obtain ⟨g1, g2, g3, g4, g5⟩ := hI
            refine z_iload (pc' := 42) X dX4_layOutPlaces_40 rfl 0 rfl ?_
            refine z_bipush (pc' := 44) X dX4_layOutPlaces_42 rfl rfl ?_
            refine z_icmp_ge (tgt := 70) (pc' := 47) X dX4_layOutPlaces_44 (by decide) rfl (by omega) (fun h44 => by exfalso; omega) (fun h44 => ?_)
            refine z_lload_n (pc' := 48) X dX4_layOutPlaces_47 rfl 2 rfl rfl ?_
            refine z_ldc2 (pc' := 51) (x := 20) X dX4_layOutPlaces_48 rfl (by decide +kernel) rfl ?_
            refine z_lload (pc' := 53) X dX4_layOutPlaces_51 rfl 1 rfl ?_
            refine z_lmul (pc' := 54) X dX4_layOutPlaces_53 rfl ?_
            refine z_lcmp_ge (tgt := 70) (pc' := 58) X dX4_layOutPlaces_54 (pc1 := 55) rfl dX4_layOutPlaces_55 (by decide) rfl (by omega) (fun h54 => ?_) (fun h54 => ?_)
            · have lp70 : ∀ (nF : Nat) (t2 : Int) (L : Int) , ((-22 ≤ t2 ∧ t2 ≤ 17) ∧ U = σ 28 0 * 3 ^ (r - 10).toNat * 2 ^ t2.toNat ∧ L = 3 ^ (-(r - 10)).toNat * 2 ^ (-t2).toNat ∧ 20 * L ≤ U ∧ (t2 ≤ 0 ∨ U < 40 * L) ∧ 1 ≤ L) → ((t2 + 64).toNat : Nat) < nF → J p l e (headSpec wsX4_layOutPlaces ({ frames := 1, cells := 0, slots := 0, locals := 25 } : Room)).room s m args below meth c D A 7 (MQ below (va_Qv (fun (uu : St) => (∀ F, F ≠ 31 → F ≠ 32 → uu F = σ F) ∧ LY uu (σ 28 0)) (Bw D (CW E q) A) A) args s 0 0 A) 70 [(6, .int (jI t2)), (4, .long (jL L)), (2, .long (jL U)), (1, .int (jI r)), (0, .ref (q 40))] [] (CW E q u1) := by
                intro nF
                induction nF with
                | zero => intro t2 L  hI hn; exact absurd hn (Nat.not_lt_zero _)
                | succ nF ih70 =>
                  intro t2 L  hI hn
                  obtain ⟨k1, k2, k3, k4, k5, k6⟩ := hI
                  refine z_iload (pc' := 72) X dX4_layOutPlaces_70 rfl 0 rfl ?_
                  refine z_bipush (pc' := 74) X dX4_layOutPlaces_72 rfl rfl ?_
                  refine z_icmp_le (tgt := 102) (pc' := 77) X dX4_layOutPlaces_74 (by decide) rfl (by omega) (fun h74 => by exfalso; omega) (fun h74 => ?_)
                  refine z_lload_n (pc' := 78) X dX4_layOutPlaces_77 rfl 2 rfl rfl ?_
                  refine z_ldc2 (pc' := 81) (x := 40) X dX4_layOutPlaces_78 rfl (by decide +kernel) rfl ?_
                  refine z_lload (pc' := 83) X dX4_layOutPlaces_81 rfl 1 rfl ?_
                  refine z_lmul (pc' := 84) X dX4_layOutPlaces_83 rfl ?_
                  refine z_lcmp_lt (tgt := 102) (pc' := 88) X dX4_layOutPlaces_84 (pc1 := 85) rfl dX4_layOutPlaces_85 (by decide) rfl (by omega) (fun h84 => ?_) (fun h84 => ?_)
                  · refine z_aload_n (pc' := 103) X dX4_layOutPlaces_102 rfl 4 rfl rfl ?_
                    refine z_get (pc' := 106) (C := RX4) (ref := "PivotBeats$PivotRow") (T := TX4) (N := 10) (v := .ref (q 31)) X dX4_layOutPlaces_103 rfl hin4 5 rfl rfl 5 (by decide) (by decide +kernel) rfl rfl ?_
                    refine z_iload_n (pc' := 107) X dX4_layOutPlaces_106 rfl 3 rfl rfl ?_
                    refine z_iload (pc' := 109) X dX4_layOutPlaces_107 rfl 0 rfl ?_
                    refine z_iast (pc' := 110) (f := u1 31) (n := 21) (w' := CW E q (up u1 31 r t2)) X dX4_layOutPlaces_109 rfl 25 rfl (by decide) (by omega) rfl ?_
                    refine z_aload_n (pc' := 111) X dX4_layOutPlaces_110 rfl 4 rfl rfl ?_
                    refine z_get (pc' := 114) (C := RX4) (ref := "PivotBeats$PivotRow") (T := TX4) (N := 10) (v := .ref (q 32)) X dX4_layOutPlaces_111 rfl hin4 5 rfl rfl 6 (by decide) (by decide +kernel) rfl rfl ?_
                    refine z_iload_n (pc' := 115) X dX4_layOutPlaces_114 rfl 3 rfl rfl ?_
                    refine z_lload_n (pc' := 116) X dX4_layOutPlaces_115 rfl 2 rfl rfl ?_
                    refine z_ldc2 (pc' := 119) (x := 16) X dX4_layOutPlaces_116 rfl (by decide +kernel) rfl ?_
                    refine z_lmul (pc' := 120) X dX4_layOutPlaces_119 rfl ?_
                    refine z_ldc2 (pc' := 123) (x := 400) X dX4_layOutPlaces_120 rfl (by decide +kernel) rfl ?_
                    refine z_lload (pc' := 125) X dX4_layOutPlaces_123 rfl 1 rfl ?_
                    refine z_lmul (pc' := 126) X dX4_layOutPlaces_125 rfl ?_
                    refine z_lcmp_gt (tgt := 134) (pc' := 130) X dX4_layOutPlaces_126 (pc1 := 127) rfl dX4_layOutPlaces_127 (by decide) rfl (by omega) (fun h126 => ?_) (fun h126 => ?_)
                    · refine z_iconst (pc' := 135) X dX4_layOutPlaces_134 rfl ?_
                      refine z_iast (pc' := 136) (f := u1 32) (n := 21) (w' := CW E q (up (up u1 31 r t2) 32 r 4)) X dX4_layOutPlaces_135 rfl 26 rfl (by decide) (by omega) rfl ?_
                      refine z_iinc (pc' := 139) (lv' := [(1, .int (jI (r + 1))), (6, .int (jI t2)), (4, .long (jL L)), (2, .long (jL U)), (0, .ref (q 40))]) X dX4_layOutPlaces_136 rfl 3 rfl (by decide) rfl ?_
                      refine z_goto (tgt := 2) X dX4_layOutPlaces_139 (by decide) ?_
                      refine z_lv (lv' := [(1, .int (jI (r + 1))), (0, .ref (q 40))]) [0, 4] rfl ?_
                      exact ih2 (r + 1) (up (up u1 31 r t2) 32 r 4)  (⟨by omega, fun F a1 a2 => by rw [← h2 F a1 a2]; funext i; rw [up_f _ _ _ _ a2, up_f _ _ _ _ a1], by first | exact ly_put h3 (ly_row hp (by omega) (by omega) k2 k3 k4 h84 (Or.inl ⟨rfl, h126⟩)) | exact ly_put h3 (ly_row hp (by omega) (by omega) k2 k3 k4 h84 (Or.inr ⟨rfl, h126⟩))⟩) (by omega)
                    · refine z_iconst (pc' := 131) X dX4_layOutPlaces_130 rfl ?_
                      refine z_goto (tgt := 135) X dX4_layOutPlaces_131 (by decide) ?_
                      refine z_iast (pc' := 136) (f := u1 32) (n := 21) (w' := CW E q (up (up u1 31 r t2) 32 r 5)) X dX4_layOutPlaces_135 rfl 26 rfl (by decide) (by omega) rfl ?_
                      refine z_iinc (pc' := 139) (lv' := [(1, .int (jI (r + 1))), (6, .int (jI t2)), (4, .long (jL L)), (2, .long (jL U)), (0, .ref (q 40))]) X dX4_layOutPlaces_136 rfl 3 rfl (by decide) rfl ?_
                      refine z_goto (tgt := 2) X dX4_layOutPlaces_139 (by decide) ?_
                      refine z_lv (lv' := [(1, .int (jI (r + 1))), (0, .ref (q 40))]) [0, 4] rfl ?_
                      exact ih2 (r + 1) (up (up u1 31 r t2) 32 r 5)  (⟨by omega, fun F a1 a2 => by rw [← h2 F a1 a2]; funext i; rw [up_f _ _ _ _ a2, up_f _ _ _ _ a1], by first | exact ly_put h3 (ly_row hp (by omega) (by omega) k2 k3 k4 h84 (Or.inl ⟨rfl, h126⟩)) | exact ly_put h3 (ly_row hp (by omega) (by omega) k2 k3 k4 h84 (Or.inr ⟨rfl, h126⟩))⟩) (by omega)
                  · refine z_lload (pc' := 90) X dX4_layOutPlaces_88 rfl 1 rfl ?_
                    refine z_ldc2 (pc' := 93) (x := 2) X dX4_layOutPlaces_90 rfl (by decide +kernel) rfl ?_
                    refine z_lmul (pc' := 94) X dX4_layOutPlaces_93 rfl ?_
                    refine z_lstore (pc' := 96) (lv' := [(4, .long (jL (L * 2))), (6, .int (jI t2)), (2, .long (jL U)), (1, .int (jI r)), (0, .ref (q 40))]) X dX4_layOutPlaces_94 rfl (by decide) rfl ?_
                    refine z_iinc (pc' := 99) (lv' := [(6, .int (jI (t2 + (-1)))), (4, .long (jL (L * 2))), (2, .long (jL U)), (1, .int (jI r)), (0, .ref (q 40))]) X dX4_layOutPlaces_96 rfl 1 rfl (by decide) rfl ?_
                    refine z_goto (tgt := 70) X dX4_layOutPlaces_99 (by decide) ?_
                    exact ih70 (t2 + (-1)) (L * 2)  (lyB hU3 g4 k1 k2 k3 k4 k6 (by omega) h84) (by omega)
              exact lp70 _ t (3 ^ (10 - r).toNat)  (⟨by omega, g2, by rw [show -(r - 10) = 10 - r by omega, show (-t).toNat = 0 by omega]; simp, h54, by omega, by omega⟩) (Nat.lt_succ_self _)
            · refine z_lload_n (pc' := 59) X dX4_layOutPlaces_58 rfl 2 rfl rfl ?_
              refine z_ldc2 (pc' := 62) (x := 2) X dX4_layOutPlaces_59 rfl (by decide +kernel) rfl ?_
              refine z_lmul (pc' := 63) X dX4_layOutPlaces_62 rfl ?_
              refine z_lstore_n (pc' := 64) (lv' := [(2, .long (jL (U * 2))), (6, .int (jI t)), (4, .long (jL (3 ^ (10 - r).toNat))), (1, .int (jI r)), (0, .ref (q 40))]) X dX4_layOutPlaces_63 rfl rfl (by decide) rfl ?_
              refine z_iinc (pc' := 67) (lv' := [(6, .int (jI (t + 1))), (2, .long (jL (U * 2))), (4, .long (jL (3 ^ (10 - r).toNat))), (1, .int (jI r)), (0, .ref (q 40))]) X dX4_layOutPlaces_64 rfl 1 rfl (by decide) rfl ?_
              refine z_goto (tgt := 40) X dX4_layOutPlaces_67 (by decide) ?_
              refine z_lv (lv' := [(6, .int (jI (t + 1))), (4, .long (jL (3 ^ (10 - r).toNat))), (2, .long (jL (U * 2))), (1, .int (jI r)), (0, .ref (q 40))]) [0, 2, 1, 3, 4] rfl ?_
              exact ih40 (t + 1) (U * 2)  (lyA hL3 g1 g2 g5 h54) (by omega)
        exact lp40 _ 0 ((u1 28 0) * (3 ^ (r - 10).toNat))  (by rw [e28]; exact ⟨by omega, by simp, Or.inl rfl, by omega, by simp; omega⟩) (Nat.lt_succ_self _)
  exact lp2 _ 0 σ  (⟨by omega, fun _ _ _ => rfl, fun s s0 s1 => by omega⟩) (Nat.lt_succ_self _)
set_option maxHeartbeats 4000000 in
set_option maxRecDepth 100000 in
theorem kX4_collectSteps (l : Launch) (D : va_G) (E : Nat → Nat) (q : Nat → Nat) (σ : St) (hs : 0 ≤ σ 30 0 ∧ σ 30 0 ≤ 1048575) : CtV l D E yX4_collectSteps wsX4_collectSteps ({ frames := 1, cells := 0, slots := 0, locals := 21 } : Room) [.ref (q 40)] (CW E q σ) (CW E q) (fun (uu : St) => (∀ F, F ≠ 33 → uu F = σ F) ∧ STb uu (σ 30 0) 400) := by
  refine mk_V (cc := cX4_collectSteps) (maxL := 5) (ret := none) (by decide) rfl (Nat.le_of_ble_eq_true rfl) ?_
  intro p e s m args below meth c A X hret
  have hin4 : ∀ x ∈ u_ws RX4 TX4 10, x ∈ wsX4_collectSteps := fun _ h => List.mem_cons_of_mem _ (List.mem_append_right _ h)
  refine z_lv (lv' := [(0, .ref (q 40))]) [0] rfl ?_
  refine z_iconst (pc' := 1) X dX4_collectSteps_0 rfl ?_
  refine z_istore_n (pc' := 2) (lv' := [(1, .int (jI 0)), (0, .ref (q 40))]) X dX4_collectSteps_1 rfl rfl (by decide) rfl ?_
  have lp2 : ∀ (nF : Nat) (x : Int) (u1 : St) , ((0 ≤ x ∧ x ≤ 65) ∧ (∀ F, F ≠ 33 → u1 F = σ F) ∧ ∀ i, 0 ≤ i → i < x → u1 33 i = 0) → ((65 - x).toNat : Nat) < nF → J p l e (headSpec wsX4_collectSteps ({ frames := 1, cells := 0, slots := 0, locals := 21 } : Room)).room s m args below meth c D A 5 (MQ below (va_Qv (fun (uu : St) => (∀ F, F ≠ 33 → uu F = σ F) ∧ STb uu (σ 30 0) 400) (Bw D (CW E q) A) A) args s 0 0 A) 2 [(1, .int (jI x)), (0, .ref (q 40))] [] (CW E q u1) := by
    intro nF
    induction nF with
    | zero => intro x u1  hI hn; exact absurd hn (Nat.not_lt_zero _)
    | succ nF ih2 =>
      intro x u1  hI hn
      obtain ⟨h1, h2, h3⟩ := hI
      refine z_iload_n (pc' := 3) X dX4_collectSteps_2 rfl 0 rfl rfl ?_
      refine z_bipush (pc' := 5) X dX4_collectSteps_3 rfl rfl ?_
      refine z_icmp_ge (tgt := 21) (pc' := 8) X dX4_collectSteps_5 (by decide) rfl (by omega) (fun h5 => ?_) (fun h5 => ?_)
      · refine z_iconst (pc' := 22) X dX4_collectSteps_21 rfl ?_
        refine z_istore_n (pc' := 23) (lv' := [(1, .int (jI 0)), (0, .ref (q 40))]) X dX4_collectSteps_22 rfl rfl (by decide) rfl ?_
        have lp23 : ∀ (nF : Nat) (v : Int) (u2 : St) , ((0 ≤ v ∧ v ≤ 20) ∧ (∀ F, F ≠ 33 → u2 F = σ F) ∧ STb u2 (σ 30 0) (20 * v)) → ((20 - v).toNat : Nat) < nF → J p l e (headSpec wsX4_collectSteps ({ frames := 1, cells := 0, slots := 0, locals := 21 } : Room)).room s m args below meth c D A 5 (MQ below (va_Qv (fun (uu : St) => (∀ F, F ≠ 33 → uu F = σ F) ∧ STb uu (σ 30 0) 400) (Bw D (CW E q) A) A) args s 0 0 A) 23 [(1, .int (jI v)), (0, .ref (q 40))] [] (CW E q u2) := by
          intro nF
          induction nF with
          | zero => intro v u2  hI hn; exact absurd hn (Nat.not_lt_zero _)
          | succ nF ih23 =>
            intro v u2  hI hn
            obtain ⟨g1, g2, g3⟩ := hI
            refine z_iload_n (pc' := 24) X dX4_collectSteps_23 rfl 0 rfl rfl ?_
            refine z_bipush (pc' := 26) X dX4_collectSteps_24 rfl rfl ?_
            refine z_icmp_ge (tgt := 108) (pc' := 29) X dX4_collectSteps_26 (by decide) rfl (by omega) (fun h26 => ?_) (fun h26 => ?_)
            · exact z_vret (post := (fun (uu : St) => (∀ F, F ≠ 33 → uu F = σ F) ∧ STb uu (σ 30 0) 400)) X dX4_collectSteps_108 hret u2 (⟨g2, by rw [show (400 : Int) = 20 * v by omega]; exact g3⟩)
            · refine z_iconst (pc' := 30) X dX4_collectSteps_29 rfl ?_
              refine z_istore_n (pc' := 31) (lv' := [(2, .int (jI 0)), (1, .int (jI v)), (0, .ref (q 40))]) X dX4_collectSteps_30 rfl rfl (by decide) rfl ?_
              have lp31 : ∀ (nF : Nat) (w : Int) (u3 : St) , ((0 ≤ w ∧ w ≤ 20) ∧ (∀ F, F ≠ 33 → u3 F = σ F) ∧ STb u3 (σ 30 0) (20 * v + w)) → ((20 - w).toNat : Nat) < nF → J p l e (headSpec wsX4_collectSteps ({ frames := 1, cells := 0, slots := 0, locals := 21 } : Room)).room s m args below meth c D A 5 (MQ below (va_Qv (fun (uu : St) => (∀ F, F ≠ 33 → uu F = σ F) ∧ STb uu (σ 30 0) 400) (Bw D (CW E q) A) A) args s 0 0 A) 31 [(2, .int (jI w)), (1, .int (jI v)), (0, .ref (q 40))] [] (CW E q u3) := by
                intro nF
                induction nF with
                | zero => intro w u3  hI hn; exact absurd hn (Nat.not_lt_zero _)
                | succ nF ih31 =>
                  intro w u3  hI hn
                  obtain ⟨k1, k2, k3⟩ := hI
                  have f30 : u3 30 0 = σ 30 0 := by rw [k2 30 (by decide)]
                  refine z_iload_n (pc' := 32) X dX4_collectSteps_31 rfl 0 rfl rfl ?_
                  refine z_bipush (pc' := 34) X dX4_collectSteps_32 rfl rfl ?_
                  refine z_icmp_ge (tgt := 102) (pc' := 37) X dX4_collectSteps_34 (by decide) rfl (by omega) (fun h34 => ?_) (fun h34 => ?_)
                  · refine z_iinc (pc' := 105) (lv' := [(1, .int (jI (v + 1))), (2, .int (jI w)), (0, .ref (q 40))]) X dX4_collectSteps_102 rfl 1 rfl (by decide) rfl ?_
                    refine z_goto (tgt := 23) X dX4_collectSteps_105 (by decide) ?_
                    refine z_lv (lv' := [(1, .int (jI (v + 1))), (0, .ref (q 40))]) [0, 2] rfl ?_
                    exact ih23 (v + 1) u3  (⟨by omega, k2, by rw [show 20 * (v + 1) = 20 * v + w by omega]; exact k3⟩) (by omega)
                  · refine z_aload_n (pc' := 38) X dX4_collectSteps_37 rfl 2 rfl rfl ?_
                    refine z_iload_n (pc' := 39) X dX4_collectSteps_38 rfl 1 rfl rfl ?_
                    refine z_callVI (pc' := 42) (S := St) (As := [.int (jI v)]) (rest := []) X dX4_collectSteps_39 rfl (kX4_inSet l D E q u3 v  (by rw [f30]; omega)) (cwV 1 X.1.2.2.2.2 gX4_collectSteps_X4_inSet rfl rfl rfl (by decide +kernel) ⟨Nat.le_of_ble_eq_true rfl, Nat.le_of_ble_eq_true rfl⟩) 5 rfl rfl rfl rfl (Nat.le_of_ble_eq_true rfl) (fun r39 u39 hp39 => ?_)
                    obtain ⟨rfl, hp39⟩ := hp39
                    rcases hp39 with ⟨rfl, hp39⟩ | ⟨rfl, hp39⟩
                    · refine z_if_eq (tgt := 96) (pc' := 45) X dX4_collectSteps_42 (by decide) rfl (by omega) (fun h => absurd h (by decide)) (fun _ => ?_)
                      refine z_aload_n (pc' := 46) X dX4_collectSteps_45 rfl 2 rfl rfl ?_
                      refine z_iload_n (pc' := 47) X dX4_collectSteps_46 rfl 0 rfl rfl ?_
                      refine z_callVI (pc' := 50) (S := St) (As := [.int (jI w)]) (rest := []) X dX4_collectSteps_47 rfl (kX4_inSet l D E q u3 w  (by rw [f30]; omega)) (cwV 1 X.1.2.2.2.2 gX4_collectSteps_X4_inSet rfl rfl rfl (by decide +kernel) ⟨Nat.le_of_ble_eq_true rfl, Nat.le_of_ble_eq_true rfl⟩) 5 rfl rfl rfl rfl (Nat.le_of_ble_eq_true rfl) (fun r47 u47 hp47 => ?_)
                      obtain ⟨rfl, hp47⟩ := hp47
                      rcases hp47 with ⟨rfl, hp47⟩ | ⟨rfl, hp47⟩
                      · refine z_if_eq (tgt := 96) (pc' := 53) X dX4_collectSteps_50 (by decide) rfl (by omega) (fun h => absurd h (by decide)) (fun _ => ?_)
                        have t1 := tw_rng (v := v) (by omega)
                        have t2 := tw_rng (v := w) (by omega)
                        refine z_getsN (pc' := 56) (ref := "PivotBeats") (host := "PivotBeats") X dX4_collectSteps_53 rfl X.2.2.2.1.1.2.1 (X.2.2.2.1.2.2.1 ("PivotBeats$PivotRow", 88, "TWOS") (by decide +kernel)) rfl ?_
                        refine z_iload_n (pc' := 57) X dX4_collectSteps_56 rfl 0 rfl rfl ?_
                        refine z_ti (pc' := 58) (f := tw) X dX4_collectSteps_57 rfl X.2.2.2.1.2.1.2.1 (by decide) (by omega) ?_
                        refine z_getsN (pc' := 61) (ref := "PivotBeats") (host := "PivotBeats") X dX4_collectSteps_58 rfl X.2.2.2.1.1.2.1 (X.2.2.2.1.2.2.1 ("PivotBeats$PivotRow", 88, "TWOS") (by decide +kernel)) rfl ?_
                        refine z_iload_n (pc' := 62) X dX4_collectSteps_61 rfl 1 rfl rfl ?_
                        refine z_ti (pc' := 63) (f := tw) X dX4_collectSteps_62 rfl X.2.2.2.1.2.1.2.1 (by decide) (by omega) ?_
                        refine z_isub (pc' := 64) X dX4_collectSteps_63 rfl ?_
                        refine z_bipush (pc' := 66) X dX4_collectSteps_64 rfl rfl ?_
                        refine z_iadd (pc' := 67) X dX4_collectSteps_66 rfl ?_
                        refine z_istore_n (pc' := 68) (lv' := [(3, .int (jI (((tw w) - (tw v)) + 6))), (2, .int (jI w)), (1, .int (jI v)), (0, .ref (q 40))]) X dX4_collectSteps_67 rfl rfl (by decide) rfl ?_
                        refine z_getsN (pc' := 71) (ref := "PivotBeats") (host := "PivotBeats") X dX4_collectSteps_68 rfl X.2.2.2.1.1.2.2 (X.2.2.2.1.2.2.1 ("PivotBeats$PivotRow", 91, "THREES") (by decide +kernel)) rfl ?_
                        refine z_iload_n (pc' := 72) X dX4_collectSteps_71 rfl 1 rfl rfl ?_
                        refine z_ti (pc' := 73) (f := th) X dX4_collectSteps_72 rfl X.2.2.2.1.2.1.2.2 (by decide) (by omega) ?_
                        refine z_getsN (pc' := 76) (ref := "PivotBeats") (host := "PivotBeats") X dX4_collectSteps_73 rfl X.2.2.2.1.1.2.2 (X.2.2.2.1.2.2.1 ("PivotBeats$PivotRow", 91, "THREES") (by decide +kernel)) rfl ?_
                        refine z_iload_n (pc' := 77) X dX4_collectSteps_76 rfl 2 rfl rfl ?_
                        refine z_ti (pc' := 78) (f := th) X dX4_collectSteps_77 rfl X.2.2.2.1.2.1.2.2 (by decide) (by omega) ?_
                        refine z_isub (pc' := 79) X dX4_collectSteps_78 rfl ?_
                        refine z_iconst (pc' := 80) X dX4_collectSteps_79 rfl ?_
                        refine z_iadd (pc' := 81) X dX4_collectSteps_80 rfl ?_
                        refine z_istore (pc' := 83) (lv' := [(4, .int (jI (((th w) - (th v)) + 2))), (3, .int (jI (((tw w) - (tw v)) + 6))), (2, .int (jI w)), (1, .int (jI v)), (0, .ref (q 40))]) X dX4_collectSteps_81 rfl (by decide) rfl ?_
                        refine z_aload_n (pc' := 84) X dX4_collectSteps_83 rfl 4 rfl rfl ?_
                        refine z_get (pc' := 87) (C := RX4) (ref := "PivotBeats$PivotRow") (T := TX4) (N := 10) (v := .ref (q 33)) X dX4_collectSteps_84 rfl hin4 5 rfl rfl 7 (by decide) (by decide +kernel) rfl rfl ?_
                        refine z_iload (pc' := 89) X dX4_collectSteps_87 rfl 0 rfl ?_
                        refine z_bipush (pc' := 91) X dX4_collectSteps_89 rfl rfl ?_
                        refine z_imul (pc' := 92) X dX4_collectSteps_91 rfl ?_
                        refine z_iload_n (pc' := 93) X dX4_collectSteps_92 rfl 1 rfl rfl ?_
                        refine z_iadd (pc' := 94) X dX4_collectSteps_93 rfl ?_
                        refine z_iconst (pc' := 95) X dX4_collectSteps_94 rfl ?_
                        refine z_zast (pc' := 96) (f := u3 33) (n := 65) (w' := CW E q (up u3 33 (((((th w) - (th v)) + 2) * 13) + (((tw w) - (tw v)) + 6)) 1)) X dX4_collectSteps_95 rfl 27 rfl (by decide) (by omega) (by decide) rfl ?_
                        refine z_iinc (pc' := 99) (lv' := [(2, .int (jI (w + 1))), (4, .int (jI (((th w) - (th v)) + 2))), (3, .int (jI (((tw w) - (tw v)) + 6))), (1, .int (jI v)), (0, .ref (q 40))]) X dX4_collectSteps_96 rfl 2 rfl (by decide) rfl ?_
                        refine z_goto (tgt := 31) X dX4_collectSteps_99 (by decide) ?_
                        refine z_lv (lv' := [(2, .int (jI (w + 1))), (1, .int (jI v)), (0, .ref (q 40))]) [0, 3, 4] rfl ?_
                        exact ih31 (w + 1) (up u3 33 (((((th w) - (th v)) + 2) * 13) + (((tw w) - (tw v)) + 6)) 1)  (by first | exact ⟨by omega, fun F a => by rw [← k2 F a]; funext i; exact up_f _ _ _ _ a, csA (by omega) (by omega) k3 (by rw [← f30]; exact hp39) (by rw [← f30]; exact hp47)⟩ | exact ⟨by omega, k2, csB (by omega) (by omega) k3 (fun q => hp39 (by rw [f30]; exact q.1))⟩ | exact ⟨by omega, k2, csB (by omega) (by omega) k3 (fun q => hp47 (by rw [f30]; exact q.2))⟩) (by omega)
                      · refine z_if_eq (tgt := 96) (pc' := 53) X dX4_collectSteps_50 (by decide) rfl (by omega) (fun _ => ?_) (fun h => absurd h (by decide))
                        refine z_iinc (pc' := 99) (lv' := [(2, .int (jI (w + 1))), (1, .int (jI v)), (0, .ref (q 40))]) X dX4_collectSteps_96 rfl 0 rfl (by decide) rfl ?_
                        refine z_goto (tgt := 31) X dX4_collectSteps_99 (by decide) ?_
                        exact ih31 (w + 1) u3  (by first | exact ⟨by omega, fun F a => by rw [← k2 F a]; funext i; exact up_f _ _ _ _ a, csA (by omega) (by omega) k3 (by rw [← f30]; exact hp39) (by rw [← f30]; exact hp47)⟩ | exact ⟨by omega, k2, csB (by omega) (by omega) k3 (fun q => hp39 (by rw [f30]; exact q.1))⟩ | exact ⟨by omega, k2, csB (by omega) (by omega) k3 (fun q => hp47 (by rw [f30]; exact q.2))⟩) (by omega)
                    · refine z_if_eq (tgt := 96) (pc' := 45) X dX4_collectSteps_42 (by decide) rfl (by omega) (fun _ => ?_) (fun h => absurd h (by decide))
                      refine z_iinc (pc' := 99) (lv' := [(2, .int (jI (w + 1))), (1, .int (jI v)), (0, .ref (q 40))]) X dX4_collectSteps_96 rfl 0 rfl (by decide) rfl ?_
                      refine z_goto (tgt := 31) X dX4_collectSteps_99 (by decide) ?_
                      exact ih31 (w + 1) u3  (by first | exact ⟨by omega, fun F a => by rw [← k2 F a]; funext i; exact up_f _ _ _ _ a, csA (by omega) (by omega) k3 (by rw [← f30]; exact hp39) (by rw [← f30]; exact hp47)⟩ | exact ⟨by omega, k2, csB (by omega) (by omega) k3 (fun q => hp39 (by rw [f30]; exact q.1))⟩ | exact ⟨by omega, k2, csB (by omega) (by omega) k3 (fun q => hp47 (by rw [f30]; exact q.2))⟩) (by omega)
              exact lp31 _ 0 u2  (⟨by omega, g2, by rw [show 20 * v + 0 = 20 * v by omega]; exact g3⟩) (Nat.lt_succ_self _)
        exact lp23 _ 0 u1  (⟨by omega, h2, fun i i0 i1 => Or.inr ⟨h3 i i0 (by omega), fun c c0 c1 => by omega⟩⟩) (Nat.lt_succ_self _)
      · refine z_aload_n (pc' := 9) X dX4_collectSteps_8 rfl 1 rfl rfl ?_
        refine z_get (pc' := 12) (C := RX4) (ref := "PivotBeats$PivotRow") (T := TX4) (N := 10) (v := .ref (q 33)) X dX4_collectSteps_9 rfl hin4 5 rfl rfl 7 (by decide) (by decide +kernel) rfl rfl ?_
        refine z_iload_n (pc' := 13) X dX4_collectSteps_12 rfl 0 rfl rfl ?_
        refine z_iconst (pc' := 14) X dX4_collectSteps_13 rfl ?_
        refine z_zast (pc' := 15) (f := u1 33) (n := 65) (w' := CW E q (up u1 33 x 0)) X dX4_collectSteps_14 rfl 27 rfl (by decide) (by omega) (by decide) rfl ?_
        refine z_iinc (pc' := 18) (lv' := [(1, .int (jI (x + 1))), (0, .ref (q 40))]) X dX4_collectSteps_15 rfl 0 rfl (by decide) rfl ?_
        refine z_goto (tgt := 2) X dX4_collectSteps_18 (by decide) ?_
        exact ih2 (x + 1) (up u1 33 x 0)  (⟨by omega, fun F a => by rw [← h2 F a]; funext i; exact up_f _ _ _ _ a, cs0 h3⟩) (by omega)
  exact lp2 _ 0 σ  (⟨by omega, fun _ _ => rfl, fun i i0 i1 => by omega⟩) (Nat.lt_succ_self _)
set_option maxHeartbeats 4000000 in
set_option maxRecDepth 100000 in
theorem kX4_queueNext (l : Launch) (D : va_G) (E : Nat → Nat) (q : Nat → Nat) (σ : St) (pl qa : Int) (p_ set_ X_ Y_ : Int) (hl : LY σ p_) (hst : STb σ set_ 400) (hT : inB p_ X_ Y_) (hq : BQ p_ set_ X_ Y_ σ qa) (hpl : VP σ p_ pl ∧ (0 ≤ σ 34 pl ∧ σ 34 pl ≤ 4) ∧ rch p_ set_ X_ Y_ (σ 34 pl).toNat (cX σ pl) (cY pl)) (hle : ∀ k, 0 ≤ k → k < qa → σ 34 (σ 35 k) ≤ σ 34 pl + 1) : CtI l D E yX4_queueNext wsX4_queueNext ({ frames := 1, cells := 0, slots := 0, locals := 24 } : Room) [.ref (q 40), .int (jI pl), .int (jI qa)] (CW E q σ) (CW E q) (fun (rv : Int) (uu : St) => ((∀ F, F ≠ 34 → F ≠ 35 → uu F = σ F) ∧ BQ p_ set_ X_ Y_ uu rv ∧ qa ≤ rv ∧ (∀ j, j < qa → uu 35 j = σ 35 j) ∧ (∀ P, ¬ σ 34 P = -9 → uu 34 P = σ 34 P) ∧ (∀ k, 0 ≤ k → k < rv → uu 34 (uu 35 k) ≤ σ 34 pl + 1) ∧ BN p_ uu pl 65)) := by
  refine mk_I (cc := cX4_queueNext) (maxL := 6) (ret := some .int) (by decide) rfl (Nat.le_of_ble_eq_true rfl) ?_
  intro p e s m args below meth c A X hret
  have hin4 : ∀ x ∈ u_ws RX4 TX4 10, x ∈ wsX4_queueNext := fun _ h => List.mem_cons_of_mem _ (List.mem_append_right _ h)
  refine z_lv (lv' := [(0, .ref (q 40)), (1, .int (jI pl)), (2, .int (jI qa))]) [0, 1, 2] rfl ?_
  have hq1 := hq.1
  have hp1 := hpl.1.1
  have hp2 := hpl.2.1
  have hpr := VP_rng hpl.1
  refine z_iload_n (pc' := 1) X dX4_queueNext_0 rfl 2 rfl rfl ?_
  refine z_istore_n (pc' := 2) (lv' := [(3, .int (jI qa)), (0, .ref (q 40)), (1, .int (jI pl)), (2, .int (jI qa))]) X dX4_queueNext_1 rfl rfl (by decide) rfl ?_
  refine z_iconst (pc' := 3) X dX4_queueNext_2 rfl ?_
  refine z_istore (pc' := 5) (lv' := [(4, .int (jI 0)), (3, .int (jI qa)), (0, .ref (q 40)), (1, .int (jI pl)), (2, .int (jI qa))]) X dX4_queueNext_3 rfl (by decide) rfl ?_
  have lp5 : ∀ (nF : Nat) (x : Int) (n_ : Int) (u1 : St) , ((0 ≤ x ∧ x ≤ 65) ∧ (∀ F, F ≠ 34 → F ≠ 35 → u1 F = σ F) ∧ BQ p_ set_ X_ Y_ u1 n_ ∧ qa ≤ n_ ∧ (∀ j, j < qa → u1 35 j = σ 35 j) ∧ (∀ P, ¬ σ 34 P = -9 → u1 34 P = σ 34 P) ∧ (∀ k, 0 ≤ k → k < n_ → u1 34 (u1 35 k) ≤ σ 34 pl + 1) ∧ BN p_ u1 pl x) → ((65 - x).toNat : Nat) < nF → J p l e (headSpec wsX4_queueNext ({ frames := 1, cells := 0, slots := 0, locals := 24 } : Room)).room s m args below meth c D A 6 (MQ below (va_Qi (fun r u => ∃ x, r = jI x ∧ (fun (rv : Int) (uu : St) => ((∀ F, F ≠ 34 → F ≠ 35 → uu F = σ F) ∧ BQ p_ set_ X_ Y_ uu rv ∧ qa ≤ rv ∧ (∀ j, j < qa → uu 35 j = σ 35 j) ∧ (∀ P, ¬ σ 34 P = -9 → uu 34 P = σ 34 P) ∧ (∀ k, 0 ≤ k → k < rv → uu 34 (uu 35 k) ≤ σ 34 pl + 1) ∧ BN p_ uu pl 65)) x u) (Bw D (CW E q) A) A) args s 0 0 A) 5 [(4, .int (jI x)), (3, .int (jI n_)), (0, .ref (q 40)), (1, .int (jI pl)), (2, .int (jI qa))] [] (CW E q u1) := by
    intro nF
    induction nF with
    | zero => intro x n_ u1  hI hn; exact absurd hn (Nat.not_lt_zero _)
    | succ nF ih5 =>
      intro x n_ u1  hI hn
      obtain ⟨g1, g2, g3, g4, g5, g6, g7, g8⟩ := hI
      have e33 := hst_at hst g2 (x := x)
      have eC : cX u1 pl = cX σ pl := cXm g2 pl
      have e34 : u1 34 pl = σ 34 pl := g6 pl (by omega)
      have g31 := g3.1
      refine z_iload (pc' := 7) X dX4_queueNext_5 rfl 0 rfl ?_
      refine z_bipush (pc' := 9) X dX4_queueNext_7 rfl rfl ?_
      refine z_icmp_ge (tgt := 117) (pc' := 12) X dX4_queueNext_9 (by decide) rfl (by omega) (fun h9 => ?_) (fun h9 => ?_)
      · refine z_iload_n (pc' := 118) X dX4_queueNext_117 rfl 1 rfl rfl ?_
        exact z_iret (post := (fun (rv : Int) (uu : St) => ((∀ F, F ≠ 34 → F ≠ 35 → uu F = σ F) ∧ BQ p_ set_ X_ Y_ uu rv ∧ qa ≤ rv ∧ (∀ j, j < qa → uu 35 j = σ 35 j) ∧ (∀ P, ¬ σ 34 P = -9 → uu 34 P = σ 34 P) ∧ (∀ k, 0 ≤ k → k < rv → uu 34 (uu 35 k) ≤ σ 34 pl + 1) ∧ BN p_ uu pl 65))) X dX4_queueNext_118 hret u1 (⟨g2, g3, g4, g5, g6, g7, by rw [show (65 : Int) = x by omega]; exact g8⟩)
      · have s33 := e33 (by omega) (by omega)
        refine z_aload_n (pc' := 13) X dX4_queueNext_12 rfl 2 rfl rfl ?_
        refine z_get (pc' := 16) (C := RX4) (ref := "PivotBeats$PivotRow") (T := TX4) (N := 10) (v := .ref (q 33)) X dX4_queueNext_13 rfl hin4 5 rfl rfl 7 (by decide) (by decide +kernel) rfl rfl ?_
        refine z_iload (pc' := 18) X dX4_queueNext_16 rfl 0 rfl ?_
        refine z_zald (pc' := 19) (f := u1 33) (n := 65) X dX4_queueNext_18 rfl 27 rfl (by decide) (by omega) ?_
        have jn58 : ∀ (nx : Int), ((u1 33 x = 1 ∧ PLC u1 p_ (cX u1 pl + x % 13 - 6) (cY pl + x / 13 - 2) nx) ∨ (u1 33 x = 0 ∧ nx = -9)) → J p l e (headSpec wsX4_queueNext ({ frames := 1, cells := 0, slots := 0, locals := 24 } : Room)).room s m args below meth c D A 6 (MQ below (va_Qi (fun r u => ∃ x, r = jI x ∧ (fun (rv : Int) (uu : St) => ((∀ F, F ≠ 34 → F ≠ 35 → uu F = σ F) ∧ BQ p_ set_ X_ Y_ uu rv ∧ qa ≤ rv ∧ (∀ j, j < qa → uu 35 j = σ 35 j) ∧ (∀ P, ¬ σ 34 P = -9 → uu 34 P = σ 34 P) ∧ (∀ k, 0 ≤ k → k < rv → uu 34 (uu 35 k) ≤ σ 34 pl + 1) ∧ BN p_ uu pl 65)) x u) (Bw D (CW E q) A) A) args s 0 0 A) 58 [(4, .int (jI x)), (3, .int (jI n_)), (0, .ref (q 40)), (1, .int (jI pl)), (2, .int (jI qa))] [.int (jI nx)] (CW E q u1) := by
          intro nx hj58
          have nr : nx = -9 ∨ (0 ≤ nx ∧ nx < 105) := hj58.elim (fun q => PLC_r q.2) (fun q => Or.inl q.2)
          refine z_istore (pc' := 60) (lv' := [(5, .int (jI nx)), (4, .int (jI x)), (3, .int (jI n_)), (0, .ref (q 40)), (1, .int (jI pl)), (2, .int (jI qa))]) X dX4_queueNext_58 rfl (by decide) rfl ?_
          refine z_iload (pc' := 62) X dX4_queueNext_60 rfl 0 rfl ?_
          refine z_bipush (pc' := 64) X dX4_queueNext_62 rfl rfl ?_
          refine z_icmp_eq (tgt := 111) (pc' := 67) X dX4_queueNext_64 (by decide) rfl (by omega) (fun h64 => ?_) (fun h64 => ?_)
          · refine z_iinc (pc' := 114) (lv' := [(4, .int (jI (x + 1))), (5, .int (jI nx)), (3, .int (jI n_)), (0, .ref (q 40)), (1, .int (jI pl)), (2, .int (jI qa))]) X dX4_queueNext_111 rfl 1 rfl (by decide) rfl ?_
            refine z_goto (tgt := 5) X dX4_queueNext_114 (by decide) ?_
            refine z_lv (lv' := [(4, .int (jI (x + 1))), (3, .int (jI n_)), (0, .ref (q 40)), (1, .int (jI pl)), (2, .int (jI qa))]) [0, 2, 3, 4, 5] rfl ?_
            exact ih5 (x + 1) n_ u1  (by first | exact ⟨by omega, g2, g3, g4, g5, g6, g7, BN_step g1.1 g8 (qnA hj58 h64)⟩ | exact ⟨by omega, g2, g3, g4, g5, g6, g7, BN_step g1.1 g8 (qnB hj58 h64 h76 g3 (by rw [e34]; exact g7))⟩ | exact qnC hst hT hpl g1.1 (by omega) g2 g3 g4 g5 g6 g7 g8 hj58 h64 h76) (by omega)
          · have hv := (qnV hj58 h64).2.1
            have hd := BQ_rng g3 (show 0 ≤ nx ∧ nx < 105 by omega)
            refine z_aload_n (pc' := 68) X dX4_queueNext_67 rfl 3 rfl rfl ?_
            refine z_get (pc' := 71) (C := RX4) (ref := "PivotBeats$PivotRow") (T := TX4) (N := 10) (v := .ref (q 34)) X dX4_queueNext_68 rfl hin4 5 rfl rfl 8 (by decide) (by decide +kernel) rfl rfl ?_
            refine z_iload (pc' := 73) X dX4_queueNext_71 rfl 0 rfl ?_
            refine z_iald (pc' := 74) (f := u1 34) (n := 105) X dX4_queueNext_73 rfl 28 rfl (by decide) (by omega) ?_
            refine z_bipush (pc' := 76) X dX4_queueNext_74 rfl rfl ?_
            refine z_icmp_ne (tgt := 111) (pc' := 79) X dX4_queueNext_76 (by decide) rfl (by omega) (fun h76 => ?_) (fun h76 => ?_)
            · refine z_iinc (pc' := 114) (lv' := [(4, .int (jI (x + 1))), (5, .int (jI nx)), (3, .int (jI n_)), (0, .ref (q 40)), (1, .int (jI pl)), (2, .int (jI qa))]) X dX4_queueNext_111 rfl 1 rfl (by decide) rfl ?_
              refine z_goto (tgt := 5) X dX4_queueNext_114 (by decide) ?_
              refine z_lv (lv' := [(4, .int (jI (x + 1))), (3, .int (jI n_)), (0, .ref (q 40)), (1, .int (jI pl)), (2, .int (jI qa))]) [0, 2, 3, 4, 5] rfl ?_
              exact ih5 (x + 1) n_ u1  (by first | exact ⟨by omega, g2, g3, g4, g5, g6, g7, BN_step g1.1 g8 (qnA hj58 h64)⟩ | exact ⟨by omega, g2, g3, g4, g5, g6, g7, BN_step g1.1 g8 (qnB hj58 h64 h76 g3 (by rw [e34]; exact g7))⟩ | exact qnC hst hT hpl g1.1 (by omega) g2 g3 g4 g5 g6 g7 g8 hj58 h64 h76) (by omega)
            · have fit := BQ_fit g3 (show 0 ≤ nx ∧ nx < 105 by omega) h76
              refine z_iload_n (pc' := 80) X dX4_queueNext_79 rfl 2 rfl rfl ?_
              refine z_bipush (pc' := 82) X dX4_queueNext_80 rfl rfl ?_
              refine z_icmp_ge (tgt := 111) (pc' := 85) X dX4_queueNext_82 (by decide) rfl (by omega) (fun h82 => by exfalso; omega) (fun h82 => ?_)
              refine z_aload_n (pc' := 86) X dX4_queueNext_85 rfl 3 rfl rfl ?_
              refine z_get (pc' := 89) (C := RX4) (ref := "PivotBeats$PivotRow") (T := TX4) (N := 10) (v := .ref (q 34)) X dX4_queueNext_86 rfl hin4 5 rfl rfl 8 (by decide) (by decide +kernel) rfl rfl ?_
              refine z_iload (pc' := 91) X dX4_queueNext_89 rfl 0 rfl ?_
              refine z_aload_n (pc' := 92) X dX4_queueNext_91 rfl 3 rfl rfl ?_
              refine z_get (pc' := 95) (C := RX4) (ref := "PivotBeats$PivotRow") (T := TX4) (N := 10) (v := .ref (q 34)) X dX4_queueNext_92 rfl hin4 5 rfl rfl 8 (by decide) (by decide +kernel) rfl rfl ?_
              refine z_iload_n (pc' := 96) X dX4_queueNext_95 rfl 4 rfl rfl ?_
              refine z_iald (pc' := 97) (f := u1 34) (n := 105) X dX4_queueNext_96 rfl 28 rfl (by decide) (by omega) ?_
              refine z_iconst (pc' := 98) X dX4_queueNext_97 rfl ?_
              refine z_iadd (pc' := 99) X dX4_queueNext_98 rfl ?_
              refine z_iast (pc' := 100) (f := u1 34) (n := 105) (w' := CW E q (up u1 34 nx ((u1 34 pl) + 1))) X dX4_queueNext_99 rfl 28 rfl (by decide) (by omega) rfl ?_
              refine z_aload_n (pc' := 101) X dX4_queueNext_100 rfl 3 rfl rfl ?_
              refine z_get (pc' := 104) (C := RX4) (ref := "PivotBeats$PivotRow") (T := TX4) (N := 10) (v := .ref (q 35)) X dX4_queueNext_101 rfl hin4 5 rfl rfl 9 (by decide) (by decide +kernel) rfl rfl ?_
              refine z_iload_n (pc' := 105) X dX4_queueNext_104 rfl 2 rfl rfl ?_
              refine z_iload (pc' := 107) X dX4_queueNext_105 rfl 0 rfl ?_
              refine z_iast (pc' := 108) (f := u1 35) (n := 105) (w' := CW E q (up (up u1 34 nx ((u1 34 pl) + 1)) 35 n_ nx)) X dX4_queueNext_107 rfl 29 rfl (by decide) (by omega) rfl ?_
              refine z_iinc (pc' := 111) (lv' := [(3, .int (jI (n_ + 1))), (5, .int (jI nx)), (4, .int (jI x)), (0, .ref (q 40)), (1, .int (jI pl)), (2, .int (jI qa))]) X dX4_queueNext_108 rfl 2 rfl (by decide) rfl ?_
              refine z_iinc (pc' := 114) (lv' := [(4, .int (jI (x + 1))), (3, .int (jI (n_ + 1))), (5, .int (jI nx)), (0, .ref (q 40)), (1, .int (jI pl)), (2, .int (jI qa))]) X dX4_queueNext_111 rfl 2 rfl (by decide) rfl ?_
              refine z_goto (tgt := 5) X dX4_queueNext_114 (by decide) ?_
              refine z_lv (lv' := [(4, .int (jI (x + 1))), (3, .int (jI (n_ + 1))), (0, .ref (q 40)), (1, .int (jI pl)), (2, .int (jI qa))]) [0, 1, 3, 4, 5] rfl ?_
              exact ih5 (x + 1) (n_ + 1) (up (up u1 34 nx ((u1 34 pl) + 1)) 35 n_ nx)  (by first | exact ⟨by omega, g2, g3, g4, g5, g6, g7, BN_step g1.1 g8 (qnA hj58 h64)⟩ | exact ⟨by omega, g2, g3, g4, g5, g6, g7, BN_step g1.1 g8 (qnB hj58 h64 h76 g3 (by rw [e34]; exact g7))⟩ | exact qnC hst hT hpl g1.1 (by omega) g2 g3 g4 g5 g6 g7 g8 hj58 h64 h76) (by omega)
        refine z_if_eq (tgt := 56) (pc' := 22) X dX4_queueNext_19 (by decide) rfl (by omega) (fun h19 => ?_) (fun h19 => ?_)
        · refine z_bipush (pc' := 58) X dX4_queueNext_56 rfl rfl ?_
          exact jn58 (-9) (by first | exact Or.inr ⟨h19, rfl⟩ | exact Or.inl ⟨by omega, hp50⟩)
        · refine z_aload_n (pc' := 23) X dX4_queueNext_22 rfl 2 rfl rfl ?_
          refine z_aload_n (pc' := 24) X dX4_queueNext_23 rfl 2 rfl rfl ?_
          refine z_iload_n (pc' := 25) X dX4_queueNext_24 rfl 3 rfl rfl ?_
          refine z_callVI (pc' := 28) (S := St) (As := [.int (jI pl)]) (rest := [.ref (q 40)]) X dX4_queueNext_25 rfl (kX4_twosAt l D E q u1 pl  (by omega)) (cwV 1 X.1.2.2.2.2 gX4_queueNext_X4_twosAt rfl rfl rfl (by decide +kernel) ⟨Nat.le_of_ble_eq_true rfl, Nat.le_of_ble_eq_true rfl⟩) 5 rfl rfl rfl rfl (Nat.le_of_ble_eq_true rfl) (fun r25 u25 hp25 => ?_)
          obtain ⟨rfl, hp25⟩ := hp25; replace hp25 := hp25.symm; subst hp25
          refine z_iload (pc' := 30) X dX4_queueNext_28 rfl 0 rfl ?_
          refine z_bipush (pc' := 32) X dX4_queueNext_30 rfl rfl ?_
          refine z_irem (pc' := 33) X dX4_queueNext_32 rfl (by omega) ?_
          refine z_iadd (pc' := 34) X dX4_queueNext_33 rfl ?_
          refine z_bipush (pc' := 36) X dX4_queueNext_34 rfl rfl ?_
          refine z_isub (pc' := 37) X dX4_queueNext_36 rfl ?_
          refine z_aload_n (pc' := 38) X dX4_queueNext_37 rfl 2 rfl rfl ?_
          refine z_iload_n (pc' := 39) X dX4_queueNext_38 rfl 3 rfl rfl ?_
          refine z_callVI (pc' := 42) (S := St) (As := [.int (jI pl)]) (rest := [.int (jI (((cX u1 pl) + (x % 13)) - 6)), .ref (q 40)]) X dX4_queueNext_39 rfl (kX4_threesAt l D E q u1 pl  (by omega)) (cwV 1 X.1.2.2.2.2 gX4_queueNext_X4_threesAt rfl rfl rfl (by decide +kernel) ⟨Nat.le_of_ble_eq_true rfl, Nat.le_of_ble_eq_true rfl⟩) 5 rfl rfl rfl rfl (Nat.le_of_ble_eq_true rfl) (fun r39 u39 hp39 => ?_)
          obtain ⟨rfl, hp39⟩ := hp39; replace hp39 := hp39.symm; subst hp39
          refine z_iload (pc' := 44) X dX4_queueNext_42 rfl 0 rfl ?_
          refine z_bipush (pc' := 46) X dX4_queueNext_44 rfl rfl ?_
          refine z_idiv (pc' := 47) X dX4_queueNext_46 rfl (by omega) ?_
          refine z_iadd (pc' := 48) X dX4_queueNext_47 rfl ?_
          refine z_iconst (pc' := 49) X dX4_queueNext_48 rfl ?_
          refine z_isub (pc' := 50) X dX4_queueNext_49 rfl ?_
          refine z_callVI (pc' := 53) (S := St) (As := [.int (jI (((cX u1 pl) + (x % 13)) - 6)), .int (jI (((cY pl) + (x / 13)) - 2))]) (rest := []) X dX4_queueNext_50 rfl (kX4_placeOf l D E q u1 (((cX u1 pl) + (x % 13)) - 6) (((cY pl) + (x / 13)) - 2) p_ (LYm g2 hl) (by rw [eC]; omega)) (cwV 2 X.1.2.2.2.2 gX4_queueNext_X4_placeOf rfl rfl rfl (by decide +kernel) ⟨Nat.le_of_ble_eq_true rfl, Nat.le_of_ble_eq_true rfl⟩) 5 rfl rfl rfl rfl (Nat.le_of_ble_eq_true rfl) (fun r50 u50 hp50 => ?_)
          obtain ⟨rfl, hp50⟩ := hp50
          refine z_goto (tgt := 58) X dX4_queueNext_53 (by decide) ?_
          exact jn58 r50 (by first | exact Or.inr ⟨h19, rfl⟩ | exact Or.inl ⟨by omega, hp50⟩)
  exact lp5 _ 0 qa σ  (⟨by omega, fun _ _ _ => rfl, hq, Int.le_refl _, fun _ _ => rfl, fun _ _ => rfl, hle, fun i i0 i1 => by omega⟩) (Nat.lt_succ_self _)
set_option maxHeartbeats 4000000 in
set_option maxRecDepth 100000 in
theorem kX4_measureFrom (l : Launch) (D : va_G) (E : Nat → Nat) (q : Nat → Nat) (σ : St) (first : Int) (p_ set_ X_ Y_ : Int) (hl : LY σ p_) (hst : STb σ set_ 400) (hT : inB p_ X_ Y_) (hf : VP σ p_ first ∧ cX σ first = X_ ∧ cY first = Y_) : CtV l D E yX4_measureFrom wsX4_measureFrom ({ frames := 2, cells := 0, slots := 0, locals := 49 } : Room) [.ref (q 40), .int (jI first)] (CW E q σ) (CW E q) (fun (uu : St) => (∀ F, F ≠ 34 → F ≠ 35 → uu F = σ F) ∧ DST uu p_ set_ X_ Y_) := by
  refine mk_V (cc := cX4_measureFrom) (maxL := 4) (ret := none) (by decide) rfl (Nat.le_of_ble_eq_true rfl) ?_
  intro p e s m args below meth c A X hret
  have hin4 : ∀ x ∈ u_ws RX4 TX4 10, x ∈ wsX4_measureFrom := fun _ h => List.mem_cons_of_mem _ (List.mem_append_right _ h)
  refine z_lv (lv' := [(0, .ref (q 40)), (1, .int (jI first))]) [0, 1] rfl ?_
  have hf1 := hf.1.1
  refine z_iconst (pc' := 1) X dX4_measureFrom_0 rfl ?_
  refine z_istore_n (pc' := 2) (lv' := [(2, .int (jI 0)), (0, .ref (q 40)), (1, .int (jI first))]) X dX4_measureFrom_1 rfl rfl (by decide) rfl ?_
  have lp2 : ∀ (nF : Nat) (x : Int) (u1 : St) , ((0 ≤ x ∧ x ≤ 105) ∧ (∀ F, F ≠ 34 → F ≠ 35 → u1 F = σ F) ∧ ∀ P, 0 ≤ P → P < x → u1 34 P = -9) → ((105 - x).toNat : Nat) < nF → J p l e (headSpec wsX4_measureFrom ({ frames := 2, cells := 0, slots := 0, locals := 49 } : Room)).room s m args below meth c D A 4 (MQ below (va_Qv (fun (uu : St) => (∀ F, F ≠ 34 → F ≠ 35 → uu F = σ F) ∧ DST uu p_ set_ X_ Y_) (Bw D (CW E q) A) A) args s 0 0 A) 2 [(2, .int (jI x)), (0, .ref (q 40)), (1, .int (jI first))] [] (CW E q u1) := by
    intro nF
    induction nF with
    | zero => intro x u1  hI hn; exact absurd hn (Nat.not_lt_zero _)
    | succ nF ih2 =>
      intro x u1  hI hn
      obtain ⟨h1, h2, h3⟩ := hI
      refine z_iload_n (pc' := 3) X dX4_measureFrom_2 rfl 0 rfl rfl ?_
      refine z_bipush (pc' := 5) X dX4_measureFrom_3 rfl rfl ?_
      refine z_icmp_ge (tgt := 22) (pc' := 8) X dX4_measureFrom_5 (by decide) rfl (by omega) (fun h5 => ?_) (fun h5 => ?_)
      · refine z_iload_n (pc' := 23) X dX4_measureFrom_22 rfl 2 rfl rfl ?_
        refine z_bipush (pc' := 25) X dX4_measureFrom_23 rfl rfl ?_
        refine z_icmp_ne (tgt := 29) (pc' := 28) X dX4_measureFrom_25 (by decide) rfl (by omega) (fun h25 => ?_) (fun h25 => by exfalso; omega)
        refine z_aload_n (pc' := 30) X dX4_measureFrom_29 rfl 1 rfl rfl ?_
        refine z_get (pc' := 33) (C := RX4) (ref := "PivotBeats$PivotRow") (T := TX4) (N := 10) (v := .ref (q 34)) X dX4_measureFrom_30 rfl hin4 5 rfl rfl 8 (by decide) (by decide +kernel) rfl rfl ?_
        refine z_iload_n (pc' := 34) X dX4_measureFrom_33 rfl 2 rfl rfl ?_
        refine z_iconst (pc' := 35) X dX4_measureFrom_34 rfl ?_
        refine z_iast (pc' := 36) (f := u1 34) (n := 105) (w' := CW E q (up u1 34 first 0)) X dX4_measureFrom_35 rfl 28 rfl (by decide) (by omega) rfl ?_
        refine z_aload_n (pc' := 37) X dX4_measureFrom_36 rfl 1 rfl rfl ?_
        refine z_get (pc' := 40) (C := RX4) (ref := "PivotBeats$PivotRow") (T := TX4) (N := 10) (v := .ref (q 35)) X dX4_measureFrom_37 rfl hin4 5 rfl rfl 9 (by decide) (by decide +kernel) rfl rfl ?_
        refine z_iconst (pc' := 41) X dX4_measureFrom_40 rfl ?_
        refine z_iload_n (pc' := 42) X dX4_measureFrom_41 rfl 2 rfl rfl ?_
        refine z_iast (pc' := 43) (f := u1 35) (n := 105) (w' := CW E q (up (up u1 34 first 0) 35 0 first)) X dX4_measureFrom_42 rfl 29 rfl (by decide) (by omega) rfl ?_
        refine z_iconst (pc' := 44) X dX4_measureFrom_43 rfl ?_
        refine z_istore_n (pc' := 45) (lv' := [(2, .int (jI 1)), (0, .ref (q 40)), (1, .int (jI first))]) X dX4_measureFrom_44 rfl rfl (by decide) rfl ?_
        refine z_iconst (pc' := 46) X dX4_measureFrom_45 rfl ?_
        refine z_istore_n (pc' := 47) (lv' := [(3, .int (jI 0)), (2, .int (jI 1)), (0, .ref (q 40)), (1, .int (jI first))]) X dX4_measureFrom_46 rfl rfl (by decide) rfl ?_
        have lp47 : ∀ (nF : Nat) (i : Int) (n_ : Int) (u2 : St) , ((∀ F, F ≠ 34 → F ≠ 35 → u2 F = σ F) ∧ BQ p_ set_ X_ Y_ u2 n_ ∧ (0 ≤ i ∧ i ≤ n_) ∧ (i < n_ → ∀ k, 0 ≤ k → k < n_ → u2 34 (u2 35 k) ≤ u2 34 (u2 35 i) + 1) ∧ (∀ j, 0 ≤ j → j < i → u2 34 (u2 35 j) < 5 → BN p_ u2 (u2 35 j) 65) ∧ u2 34 first = 0) → ((105 - i).toNat : Nat) < nF → J p l e (headSpec wsX4_measureFrom ({ frames := 2, cells := 0, slots := 0, locals := 49 } : Room)).room s m args below meth c D A 4 (MQ below (va_Qv (fun (uu : St) => (∀ F, F ≠ 34 → F ≠ 35 → uu F = σ F) ∧ DST uu p_ set_ X_ Y_) (Bw D (CW E q) A) A) args s 0 0 A) 47 [(3, .int (jI i)), (2, .int (jI n_)), (0, .ref (q 40)), (1, .int (jI first))] [] (CW E q u2) := by
          intro nF
          induction nF with
          | zero => intro i n_ u2  hI hn; exact absurd hn (Nat.not_lt_zero _)
          | succ nF ih47 =>
            intro i n_ u2  hI hn
            obtain ⟨g2, g3, g4, g5, g6, g7⟩ := hI
            have bq := g3.2.1
            have g31 := g3.1
            refine z_iload_n (pc' := 48) X dX4_measureFrom_47 rfl 0 rfl rfl ?_
            refine z_iload_n (pc' := 49) X dX4_measureFrom_48 rfl 1 rfl rfl ?_
            refine z_icmp_ge (tgt := 91) (pc' := 52) X dX4_measureFrom_49 (by decide) rfl (by omega) (fun h49 => ?_) (fun h49 => ?_)
            · exact z_vret (post := (fun (uu : St) => (∀ F, F ≠ 34 → F ≠ 35 → uu F = σ F) ∧ DST uu p_ set_ X_ Y_)) X dX4_measureFrom_91 hret u2 (⟨g2, BQ_end (LYm g2 hl) hT (STm g2 hst) g3 (VPm g2 hf) g7 (fun j j0 j1 => g6 j j0 (by omega))⟩)
            · refine z_iload_n (pc' := 53) X dX4_measureFrom_52 rfl 0 rfl rfl ?_
              refine z_bipush (pc' := 55) X dX4_measureFrom_53 rfl rfl ?_
              refine z_icmp_ge (tgt := 91) (pc' := 58) X dX4_measureFrom_55 (by decide) rfl (by omega) (fun h55 => by exfalso; omega) (fun h55 => ?_)
              have bi := bq i (by omega) (by omega)
              have b1 := bi.1.1
              have b2 := bi.2.1
              refine z_aload_n (pc' := 59) X dX4_measureFrom_58 rfl 2 rfl rfl ?_
              refine z_get (pc' := 62) (C := RX4) (ref := "PivotBeats$PivotRow") (T := TX4) (N := 10) (v := .ref (q 34)) X dX4_measureFrom_59 rfl hin4 5 rfl rfl 8 (by decide) (by decide +kernel) rfl rfl ?_
              refine z_aload_n (pc' := 63) X dX4_measureFrom_62 rfl 2 rfl rfl ?_
              refine z_get (pc' := 66) (C := RX4) (ref := "PivotBeats$PivotRow") (T := TX4) (N := 10) (v := .ref (q 35)) X dX4_measureFrom_63 rfl hin4 5 rfl rfl 9 (by decide) (by decide +kernel) rfl rfl ?_
              refine z_iload_n (pc' := 67) X dX4_measureFrom_66 rfl 0 rfl rfl ?_
              refine z_iald (pc' := 68) (f := u2 35) (n := 105) X dX4_measureFrom_67 rfl 29 rfl (by decide) (by omega) ?_
              refine z_iald (pc' := 69) (f := u2 34) (n := 105) X dX4_measureFrom_68 rfl 28 rfl (by decide) (by omega) ?_
              refine z_iconst (pc' := 70) X dX4_measureFrom_69 rfl ?_
              refine z_icmp_ge (tgt := 85) (pc' := 73) X dX4_measureFrom_70 (by decide) rfl (by omega) (fun h70 => ?_) (fun h70 => ?_)
              · refine z_iinc (pc' := 88) (lv' := [(3, .int (jI (i + 1))), (2, .int (jI n_)), (0, .ref (q 40)), (1, .int (jI first))]) X dX4_measureFrom_85 rfl 0 rfl (by decide) rfl ?_
                refine z_goto (tgt := 47) X dX4_measureFrom_88 (by decide) ?_
                exact ih47 (i + 1) n_ u2  (by first | exact msS g2 g3 g4 (by omega) (g5 (by omega)) g6 g7 hn81 hq81 hg81 ho81 hk81 hl81 hb81 | exact ⟨g2, g3, by omega, msN g3 g4.1 (g5 (by omega)), msO g6 h70, g7⟩) (by omega)
              · refine z_aload_n (pc' := 74) X dX4_measureFrom_73 rfl 2 rfl rfl ?_
                refine z_aload_n (pc' := 75) X dX4_measureFrom_74 rfl 2 rfl rfl ?_
                refine z_get (pc' := 78) (C := RX4) (ref := "PivotBeats$PivotRow") (T := TX4) (N := 10) (v := .ref (q 35)) X dX4_measureFrom_75 rfl hin4 5 rfl rfl 9 (by decide) (by decide +kernel) rfl rfl ?_
                refine z_iload_n (pc' := 79) X dX4_measureFrom_78 rfl 0 rfl rfl ?_
                refine z_iald (pc' := 80) (f := u2 35) (n := 105) X dX4_measureFrom_79 rfl 29 rfl (by decide) (by omega) ?_
                refine z_iload_n (pc' := 81) X dX4_measureFrom_80 rfl 1 rfl rfl ?_
                refine z_callVI (pc' := 84) (S := St) (As := [.int (jI (u2 35 i)), .int (jI n_)]) (rest := []) X dX4_measureFrom_81 rfl (kX4_queueNext l D E q u2 (u2 35 i) n_ p_ set_ X_ Y_ (LYm g2 hl) (STm g2 hst) (hT) (g3) (⟨(bq i (by omega) (by omega)).1, by have := (bq i (by omega) (by omega)).2.1; omega, (bq i (by omega) (by omega)).2.2⟩) (g5 (by omega))) (cwV 2 X.1.2.2.2.2 gX4_measureFrom_X4_queueNext rfl rfl rfl (by decide +kernel) ⟨Nat.le_of_ble_eq_true rfl, Nat.le_of_ble_eq_true rfl⟩) 5 rfl rfl rfl rfl (Nat.le_of_ble_eq_true rfl) (fun r81 u81 hp81 => ?_)
                obtain ⟨hn81, hq81, hg81, ho81, hk81, hl81, hb81⟩ := hp81
                refine z_istore_n (pc' := 85) (lv' := [(2, .int (jI r81)), (3, .int (jI i)), (0, .ref (q 40)), (1, .int (jI first))]) X dX4_measureFrom_84 rfl rfl (by decide) rfl ?_
                refine z_iinc (pc' := 88) (lv' := [(3, .int (jI (i + 1))), (2, .int (jI r81)), (0, .ref (q 40)), (1, .int (jI first))]) X dX4_measureFrom_85 rfl 1 rfl (by decide) rfl ?_
                refine z_goto (tgt := 47) X dX4_measureFrom_88 (by decide) ?_
                exact ih47 (i + 1) r81 u81  (by first | exact msS g2 g3 g4 (by omega) (g5 (by omega)) g6 g7 hn81 hq81 hg81 ho81 hk81 hl81 hb81 | exact ⟨g2, g3, by omega, msN g3 g4.1 (g5 (by omega)), msO g6 h70, g7⟩) (by omega)
        exact lp47 _ 0 1 (up (up u1 34 first 0) 35 0 first)  (msI hf h2 (fun P a1 a2 => h3 P a1 (by omega))) (Nat.lt_succ_self _)
      · refine z_aload_n (pc' := 9) X dX4_measureFrom_8 rfl 1 rfl rfl ?_
        refine z_get (pc' := 12) (C := RX4) (ref := "PivotBeats$PivotRow") (T := TX4) (N := 10) (v := .ref (q 34)) X dX4_measureFrom_9 rfl hin4 5 rfl rfl 8 (by decide) (by decide +kernel) rfl rfl ?_
        refine z_iload_n (pc' := 13) X dX4_measureFrom_12 rfl 0 rfl rfl ?_
        refine z_bipush (pc' := 15) X dX4_measureFrom_13 rfl rfl ?_
        refine z_iast (pc' := 16) (f := u1 34) (n := 105) (w' := CW E q (up u1 34 x (-9))) X dX4_measureFrom_15 rfl 28 rfl (by decide) (by omega) rfl ?_
        refine z_iinc (pc' := 19) (lv' := [(2, .int (jI (x + 1))), (0, .ref (q 40)), (1, .int (jI first))]) X dX4_measureFrom_16 rfl 0 rfl (by decide) rfl ?_
        refine z_goto (tgt := 2) X dX4_measureFrom_19 (by decide) ?_
        exact ih2 (x + 1) (up u1 34 x (-9))  (⟨by omega, fun F a1 a2 => by rw [← h2 F a1 a2]; funext i; exact up_f _ _ _ _ a1, ms0 h3⟩) (by omega)
  exact lp2 _ 0 σ  (⟨by omega, fun _ _ _ => rfl, fun P a1 a2 => by omega⟩) (Nat.lt_succ_self _)
set_option maxHeartbeats 4000000 in
set_option maxRecDepth 100000 in
theorem kX4_firstStep (l : Launch) (D : va_G) (E : Nat → Nat) (q : Nat → Nat) (σ : St) (fx fy left : Int) (p_ set_ X_ Y_ : Int) (hl : LY σ p_) (hd : DST σ p_ set_ X_ Y_) (hs : σ 30 0 = set_ ∧ (0 ≤ set_ ∧ set_ ≤ 1048575)) (hr : (-30 ≤ fx ∧ fx ≤ 30) ∧ (-10 ≤ fy ∧ fy ≤ 10) ∧ (0 ≤ left ∧ left ≤ 5)) : CtI l D E yX4_firstStep wsX4_firstStep ({ frames := 1, cells := 0, slots := 0, locals := 24 } : Room) [.ref (q 40), .int (jI fx), .int (jI fy), .int (jI left)] (CW E q σ) (CW E q) (fun (rv : Int) (uu : St) => σ = uu ∧ ((rv = -9 ∧ ∀ c, 0 ≤ c → c < 400 → ¬ gdC p_ set_ X_ Y_ (left.toNat + 1) fx fy c) ∨ ∃ c, fsC p_ set_ X_ Y_ (left.toNat + 1) fx fy c ∧ rv = 100 * (c / 20) + c % 20)) := by
  refine mk_I (cc := cX4_firstStep) (maxL := 7) (ret := some .int) (by decide) rfl (Nat.le_of_ble_eq_true rfl) ?_
  intro p e s m args below meth c A X hret
  have hin4 : ∀ x ∈ u_ws RX4 TX4 10, x ∈ wsX4_firstStep := fun _ h => List.mem_cons_of_mem _ (List.mem_append_right _ h)
  refine z_lv (lv' := [(0, .ref (q 40)), (1, .int (jI fx)), (2, .int (jI fy)), (3, .int (jI left))]) [0, 1, 2, 3] rfl ?_
  refine z_iconst (pc' := 1) X dX4_firstStep_0 rfl ?_
  refine z_istore (pc' := 3) (lv' := [(4, .int (jI 0)), (0, .ref (q 40)), (1, .int (jI fx)), (2, .int (jI fy)), (3, .int (jI left))]) X dX4_firstStep_1 rfl (by decide) rfl ?_
  have lp3 : ∀ (nF : Nat) (v : Int) , ((0 ≤ v ∧ v ≤ 20) ∧ ∀ c, 0 ≤ c → c < 20 * v → ¬ gdC p_ set_ X_ Y_ (left.toNat + 1) fx fy c) → ((20 - v).toNat : Nat) < nF → J p l e (headSpec wsX4_firstStep ({ frames := 1, cells := 0, slots := 0, locals := 24 } : Room)).room s m args below meth c D A 7 (MQ below (va_Qi (fun r u => ∃ x, r = jI x ∧ (fun (rv : Int) (uu : St) => σ = uu ∧ ((rv = -9 ∧ ∀ c, 0 ≤ c → c < 400 → ¬ gdC p_ set_ X_ Y_ (left.toNat + 1) fx fy c) ∨ ∃ c, fsC p_ set_ X_ Y_ (left.toNat + 1) fx fy c ∧ rv = 100 * (c / 20) + c % 20)) x u) (Bw D (CW E q) A) A) args s 0 0 A) 3 [(4, .int (jI v)), (0, .ref (q 40)), (1, .int (jI fx)), (2, .int (jI fy)), (3, .int (jI left))] [] (CW E q σ) := by
    intro nF
    induction nF with
    | zero => intro v  hI hn; exact absurd hn (Nat.not_lt_zero _)
    | succ nF ih3 =>
      intro v  hI hn
      obtain ⟨g1, g2⟩ := hI
      refine z_iload (pc' := 5) X dX4_firstStep_3 rfl 0 rfl ?_
      refine z_bipush (pc' := 7) X dX4_firstStep_5 rfl rfl ?_
      refine z_icmp_ge (tgt := 113) (pc' := 10) X dX4_firstStep_7 (by decide) rfl (by omega) (fun h7 => ?_) (fun h7 => ?_)
      · refine z_bipush (pc' := 115) X dX4_firstStep_113 rfl rfl ?_
        exact z_iret (post := (fun (rv : Int) (uu : St) => σ = uu ∧ ((rv = -9 ∧ ∀ c, 0 ≤ c → c < 400 → ¬ gdC p_ set_ X_ Y_ (left.toNat + 1) fx fy c) ∨ ∃ c, fsC p_ set_ X_ Y_ (left.toNat + 1) fx fy c ∧ rv = 100 * (c / 20) + c % 20))) X dX4_firstStep_115 hret σ (⟨rfl, Or.inl ⟨rfl, fun c c0 c1 => g2 c c0 (by omega)⟩⟩)
      · refine z_iconst (pc' := 11) X dX4_firstStep_10 rfl ?_
        refine z_istore (pc' := 13) (lv' := [(5, .int (jI 0)), (4, .int (jI v)), (0, .ref (q 40)), (1, .int (jI fx)), (2, .int (jI fy)), (3, .int (jI left))]) X dX4_firstStep_11 rfl (by decide) rfl ?_
        have lp13 : ∀ (nF : Nat) (w : Int) , ((0 ≤ w ∧ w ≤ 20) ∧ ∀ c, 0 ≤ c → c < 20 * v + w → ¬ gdC p_ set_ X_ Y_ (left.toNat + 1) fx fy c) → ((20 - w).toNat : Nat) < nF → J p l e (headSpec wsX4_firstStep ({ frames := 1, cells := 0, slots := 0, locals := 24 } : Room)).room s m args below meth c D A 7 (MQ below (va_Qi (fun r u => ∃ x, r = jI x ∧ (fun (rv : Int) (uu : St) => σ = uu ∧ ((rv = -9 ∧ ∀ c, 0 ≤ c → c < 400 → ¬ gdC p_ set_ X_ Y_ (left.toNat + 1) fx fy c) ∨ ∃ c, fsC p_ set_ X_ Y_ (left.toNat + 1) fx fy c ∧ rv = 100 * (c / 20) + c % 20)) x u) (Bw D (CW E q) A) A) args s 0 0 A) 13 [(5, .int (jI w)), (4, .int (jI v)), (0, .ref (q 40)), (1, .int (jI fx)), (2, .int (jI fy)), (3, .int (jI left))] [] (CW E q σ) := by
          intro nF
          induction nF with
          | zero => intro w  hI hn; exact absurd hn (Nat.not_lt_zero _)
          | succ nF ih13 =>
            intro w  hI hn
            obtain ⟨k1, k2⟩ := hI
            refine z_iload (pc' := 15) X dX4_firstStep_13 rfl 0 rfl ?_
            refine z_bipush (pc' := 17) X dX4_firstStep_15 rfl rfl ?_
            refine z_icmp_ge (tgt := 107) (pc' := 20) X dX4_firstStep_17 (by decide) rfl (by omega) (fun h17 => ?_) (fun h17 => ?_)
            · refine z_iinc (pc' := 110) (lv' := [(4, .int (jI (v + 1))), (5, .int (jI w)), (0, .ref (q 40)), (1, .int (jI fx)), (2, .int (jI fy)), (3, .int (jI left))]) X dX4_firstStep_107 rfl 1 rfl (by decide) rfl ?_
              refine z_goto (tgt := 3) X dX4_firstStep_110 (by decide) ?_
              refine z_lv (lv' := [(4, .int (jI (v + 1))), (0, .ref (q 40)), (1, .int (jI fx)), (2, .int (jI fy)), (3, .int (jI left))]) [0, 2, 3, 4, 5] rfl ?_
              exact ih3 (v + 1)  (⟨by omega, fun c c0 c1 => k2 c c0 (by omega)⟩) (by omega)
            · refine z_aload_n (pc' := 21) X dX4_firstStep_20 rfl 2 rfl rfl ?_
              refine z_iload (pc' := 23) X dX4_firstStep_21 rfl 1 rfl ?_
              refine z_callVI (pc' := 26) (S := St) (As := [.int (jI v)]) (rest := []) X dX4_firstStep_23 rfl (kX4_inSet l D E q σ v  (by rw [hs.1]; omega)) (cwV 1 X.1.2.2.2.2 gX4_firstStep_X4_inSet rfl rfl rfl (by decide +kernel) ⟨Nat.le_of_ble_eq_true rfl, Nat.le_of_ble_eq_true rfl⟩) 5 rfl rfl rfl rfl (Nat.le_of_ble_eq_true rfl) (fun r23 u23 hp23 => ?_)
              obtain ⟨rfl, hp23⟩ := hp23
              rcases hp23 with ⟨rfl, hp23⟩ | ⟨rfl, hp23⟩
              · refine z_if_eq (tgt := 101) (pc' := 29) X dX4_firstStep_26 (by decide) rfl (by omega) (fun h => absurd h (by decide)) (fun _ => ?_)
                refine z_aload_n (pc' := 30) X dX4_firstStep_29 rfl 2 rfl rfl ?_
                refine z_iload (pc' := 32) X dX4_firstStep_30 rfl 0 rfl ?_
                refine z_callVI (pc' := 35) (S := St) (As := [.int (jI w)]) (rest := []) X dX4_firstStep_32 rfl (kX4_inSet l D E q σ w  (by rw [hs.1]; omega)) (cwV 1 X.1.2.2.2.2 gX4_firstStep_X4_inSet rfl rfl rfl (by decide +kernel) ⟨Nat.le_of_ble_eq_true rfl, Nat.le_of_ble_eq_true rfl⟩) 5 rfl rfl rfl rfl (Nat.le_of_ble_eq_true rfl) (fun r32 u32 hp32 => ?_)
                obtain ⟨rfl, hp32⟩ := hp32
                rcases hp32 with ⟨rfl, hp32⟩ | ⟨rfl, hp32⟩
                · refine z_if_eq (tgt := 101) (pc' := 38) X dX4_firstStep_35 (by decide) rfl (by omega) (fun h => absurd h (by decide)) (fun _ => ?_)
                  have t1 := tw_rng (v := v) (by omega)
                  have t2 := tw_rng (v := w) (by omega)
                  refine z_aload_n (pc' := 39) X dX4_firstStep_38 rfl 2 rfl rfl ?_
                  refine z_iload_n (pc' := 40) X dX4_firstStep_39 rfl 3 rfl rfl ?_
                  refine z_getsN (pc' := 43) (ref := "PivotBeats") (host := "PivotBeats") X dX4_firstStep_40 rfl X.2.2.2.1.1.2.1 (X.2.2.2.1.2.2.1 ("PivotBeats$PivotRow", 88, "TWOS") (by decide +kernel)) rfl ?_
                  refine z_iload (pc' := 45) X dX4_firstStep_43 rfl 0 rfl ?_
                  refine z_ti (pc' := 46) (f := tw) X dX4_firstStep_45 rfl X.2.2.2.1.2.1.2.1 (by decide) (by omega) ?_
                  refine z_iadd (pc' := 47) X dX4_firstStep_46 rfl ?_
                  refine z_getsN (pc' := 50) (ref := "PivotBeats") (host := "PivotBeats") X dX4_firstStep_47 rfl X.2.2.2.1.1.2.1 (X.2.2.2.1.2.2.1 ("PivotBeats$PivotRow", 88, "TWOS") (by decide +kernel)) rfl ?_
                  refine z_iload (pc' := 52) X dX4_firstStep_50 rfl 1 rfl ?_
                  refine z_ti (pc' := 53) (f := tw) X dX4_firstStep_52 rfl X.2.2.2.1.2.1.2.1 (by decide) (by omega) ?_
                  refine z_isub (pc' := 54) X dX4_firstStep_53 rfl ?_
                  refine z_iload_n (pc' := 55) X dX4_firstStep_54 rfl 4 rfl rfl ?_
                  refine z_getsN (pc' := 58) (ref := "PivotBeats") (host := "PivotBeats") X dX4_firstStep_55 rfl X.2.2.2.1.1.2.2 (X.2.2.2.1.2.2.1 ("PivotBeats$PivotRow", 91, "THREES") (by decide +kernel)) rfl ?_
                  refine z_iload (pc' := 60) X dX4_firstStep_58 rfl 0 rfl ?_
                  refine z_ti (pc' := 61) (f := th) X dX4_firstStep_60 rfl X.2.2.2.1.2.1.2.2 (by decide) (by omega) ?_
                  refine z_iadd (pc' := 62) X dX4_firstStep_61 rfl ?_
                  refine z_getsN (pc' := 65) (ref := "PivotBeats") (host := "PivotBeats") X dX4_firstStep_62 rfl X.2.2.2.1.1.2.2 (X.2.2.2.1.2.2.1 ("PivotBeats$PivotRow", 91, "THREES") (by decide +kernel)) rfl ?_
                  refine z_iload (pc' := 67) X dX4_firstStep_65 rfl 1 rfl ?_
                  refine z_ti (pc' := 68) (f := th) X dX4_firstStep_67 rfl X.2.2.2.1.2.1.2.2 (by decide) (by omega) ?_
                  refine z_isub (pc' := 69) X dX4_firstStep_68 rfl ?_
                  refine z_callVI (pc' := 72) (S := St) (As := [.int (jI ((fx + (tw w)) - (tw v))), .int (jI ((fy + (th w)) - (th v)))]) (rest := []) X dX4_firstStep_69 rfl (kX4_placeOf l D E q σ ((fx + (tw w)) - (tw v)) ((fy + (th w)) - (th v)) p_ (hl) (by omega)) (cwV 2 X.1.2.2.2.2 gX4_firstStep_X4_placeOf rfl rfl rfl (by decide +kernel) ⟨Nat.le_of_ble_eq_true rfl, Nat.le_of_ble_eq_true rfl⟩) 5 rfl rfl rfl rfl (Nat.le_of_ble_eq_true rfl) (fun r69 u69 hp69 => ?_)
                  obtain ⟨rfl, hp69⟩ := hp69
                  have nr := PLC_r hp69
                  refine z_istore (pc' := 74) (lv' := [(6, .int (jI r69)), (5, .int (jI w)), (4, .int (jI v)), (0, .ref (q 40)), (1, .int (jI fx)), (2, .int (jI fy)), (3, .int (jI left))]) X dX4_firstStep_72 rfl (by decide) rfl ?_
                  refine z_iload (pc' := 76) X dX4_firstStep_74 rfl 0 rfl ?_
                  refine z_bipush (pc' := 78) X dX4_firstStep_76 rfl rfl ?_
                  refine z_icmp_eq (tgt := 101) (pc' := 81) X dX4_firstStep_78 (by decide) rfl (by omega) (fun h78 => ?_) (fun h78 => ?_)
                  · refine z_iinc (pc' := 104) (lv' := [(5, .int (jI (w + 1))), (6, .int (jI r69)), (4, .int (jI v)), (0, .ref (q 40)), (1, .int (jI fx)), (2, .int (jI fy)), (3, .int (jI left))]) X dX4_firstStep_101 rfl 1 rfl (by decide) rfl ?_
                    refine z_goto (tgt := 13) X dX4_firstStep_104 (by decide) ?_
                    refine z_lv (lv' := [(5, .int (jI (w + 1))), (4, .int (jI v)), (0, .ref (q 40)), (1, .int (jI fx)), (2, .int (jI fy)), (3, .int (jI left))]) [0, 2, 3, 4, 5, 6] rfl ?_
                    exact ih13 (w + 1)  (⟨by omega, by first | exact fsN k2 (fun z => hp23 (by rw [hs.1]; exact ((stp_vw (by omega)).mp z.1).1)) | exact fsN k2 (fun z => hp32 (by rw [hs.1]; exact ((stp_vw (by omega)).mp z.1).2)) | exact fsN k2 (fsP hp69 h78 (by omega)) | exact fsN k2 (fsQ hd hr.2.2 hp69 h78 h89 (by omega))⟩) (by omega)
                  · have pn := PLC_n hp69 h78
                    have dr := DST_rng hd pn.2.1
                    refine z_aload_n (pc' := 82) X dX4_firstStep_81 rfl 3 rfl rfl ?_
                    refine z_get (pc' := 85) (C := RX4) (ref := "PivotBeats$PivotRow") (T := TX4) (N := 10) (v := .ref (q 34)) X dX4_firstStep_82 rfl hin4 5 rfl rfl 8 (by decide) (by decide +kernel) rfl rfl ?_
                    refine z_iload (pc' := 87) X dX4_firstStep_85 rfl 0 rfl ?_
                    refine z_iald (pc' := 88) (f := σ 34) (n := 105) X dX4_firstStep_87 rfl 28 rfl (by decide) (by omega) ?_
                    refine z_iload_n (pc' := 89) X dX4_firstStep_88 rfl 6 rfl rfl ?_
                    refine z_icmp_ne (tgt := 101) (pc' := 92) X dX4_firstStep_89 (by decide) rfl (by omega) (fun h89 => ?_) (fun h89 => ?_)
                    · refine z_iinc (pc' := 104) (lv' := [(5, .int (jI (w + 1))), (6, .int (jI r69)), (4, .int (jI v)), (0, .ref (q 40)), (1, .int (jI fx)), (2, .int (jI fy)), (3, .int (jI left))]) X dX4_firstStep_101 rfl 1 rfl (by decide) rfl ?_
                      refine z_goto (tgt := 13) X dX4_firstStep_104 (by decide) ?_
                      refine z_lv (lv' := [(5, .int (jI (w + 1))), (4, .int (jI v)), (0, .ref (q 40)), (1, .int (jI fx)), (2, .int (jI fy)), (3, .int (jI left))]) [0, 2, 3, 4, 5, 6] rfl ?_
                      exact ih13 (w + 1)  (⟨by omega, by first | exact fsN k2 (fun z => hp23 (by rw [hs.1]; exact ((stp_vw (by omega)).mp z.1).1)) | exact fsN k2 (fun z => hp32 (by rw [hs.1]; exact ((stp_vw (by omega)).mp z.1).2)) | exact fsN k2 (fsP hp69 h78 (by omega)) | exact fsN k2 (fsQ hd hr.2.2 hp69 h78 h89 (by omega))⟩) (by omega)
                    · refine z_bipush (pc' := 94) X dX4_firstStep_92 rfl rfl ?_
                      refine z_iload (pc' := 96) X dX4_firstStep_94 rfl 2 rfl ?_
                      refine z_imul (pc' := 97) X dX4_firstStep_96 rfl ?_
                      refine z_iload (pc' := 99) X dX4_firstStep_97 rfl 1 rfl ?_
                      refine z_iadd (pc' := 100) X dX4_firstStep_99 rfl ?_
                      exact z_iret (post := (fun (rv : Int) (uu : St) => σ = uu ∧ ((rv = -9 ∧ ∀ c, 0 ≤ c → c < 400 → ¬ gdC p_ set_ X_ Y_ (left.toNat + 1) fx fy c) ∨ ∃ c, fsC p_ set_ X_ Y_ (left.toNat + 1) fx fy c ∧ rv = 100 * (c / 20) + c % 20))) X dX4_firstStep_100 hret σ (⟨rfl, Or.inr ⟨20 * v + w, fsG hd hr.2.2 (by omega) (by omega) hp69 h78 h89 (by rw [← hs.1]; exact hp23) (by rw [← hs.1]; exact hp32) k2, by rw [show (20 * v + w) / 20 = v by omega, show (20 * v + w) % 20 = w by omega]⟩⟩)
                · refine z_if_eq (tgt := 101) (pc' := 38) X dX4_firstStep_35 (by decide) rfl (by omega) (fun _ => ?_) (fun h => absurd h (by decide))
                  refine z_iinc (pc' := 104) (lv' := [(5, .int (jI (w + 1))), (4, .int (jI v)), (0, .ref (q 40)), (1, .int (jI fx)), (2, .int (jI fy)), (3, .int (jI left))]) X dX4_firstStep_101 rfl 0 rfl (by decide) rfl ?_
                  refine z_goto (tgt := 13) X dX4_firstStep_104 (by decide) ?_
                  exact ih13 (w + 1)  (⟨by omega, by first | exact fsN k2 (fun z => hp23 (by rw [hs.1]; exact ((stp_vw (by omega)).mp z.1).1)) | exact fsN k2 (fun z => hp32 (by rw [hs.1]; exact ((stp_vw (by omega)).mp z.1).2)) | exact fsN k2 (fsP hp69 h78 (by omega)) | exact fsN k2 (fsQ hd hr.2.2 hp69 h78 h89 (by omega))⟩) (by omega)
              · refine z_if_eq (tgt := 101) (pc' := 29) X dX4_firstStep_26 (by decide) rfl (by omega) (fun _ => ?_) (fun h => absurd h (by decide))
                refine z_iinc (pc' := 104) (lv' := [(5, .int (jI (w + 1))), (4, .int (jI v)), (0, .ref (q 40)), (1, .int (jI fx)), (2, .int (jI fy)), (3, .int (jI left))]) X dX4_firstStep_101 rfl 0 rfl (by decide) rfl ?_
                refine z_goto (tgt := 13) X dX4_firstStep_104 (by decide) ?_
                exact ih13 (w + 1)  (⟨by omega, by first | exact fsN k2 (fun z => hp23 (by rw [hs.1]; exact ((stp_vw (by omega)).mp z.1).1)) | exact fsN k2 (fun z => hp32 (by rw [hs.1]; exact ((stp_vw (by omega)).mp z.1).2)) | exact fsN k2 (fsP hp69 h78 (by omega)) | exact fsN k2 (fsQ hd hr.2.2 hp69 h78 h89 (by omega))⟩) (by omega)
        exact lp13 _ 0  (⟨by omega, fun c c0 c1 => g2 c c0 (by omega)⟩) (Nat.lt_succ_self _)
  exact lp3 _ 0  (⟨by omega, fun c c0 c1 => by omega⟩) (Nat.lt_succ_self _)
set_option maxHeartbeats 4000000 in
set_option maxRecDepth 100000 in
theorem kX4_readRow (l : Launch) (D : va_G) (E : Nat → Nat) (q : Nat → Nat) (σ : St) (p_ set_ X_ Y_ : Int) (d_ : Nat) (hl : LY σ p_) (hd : DST σ p_ set_ X_ Y_) (hs : σ 30 0 = set_ ∧ (0 ≤ set_ ∧ set_ ≤ 1048575)) (hT : inB p_ X_ Y_) (hv : d_ ≤ 5 ∧ lv p_ set_ X_ Y_ d_ 0 0 ∧ σ 26 0 = d_) : CtV l D E yX4_readRow wsX4_readRow ({ frames := 2, cells := 0, slots := 0, locals := 50 } : Room) [.ref (q 40)] (CW E q σ) (CW E q) (fun (uu : St) => (∀ F, F ≠ 27 → uu F = σ F) ∧ ∀ j : Int, 0 ≤ j → j < (d_ : Int) → RWk p_ set_ X_ Y_ j.toNat d_ 0 0 (uu 27 j)) := by
  refine mk_V (cc := cX4_readRow) (maxL := 5) (ret := none) (by decide) rfl (Nat.le_of_ble_eq_true rfl) ?_
  intro p e s m args below meth c A X hret
  have hin4 : ∀ x ∈ u_ws RX4 TX4 10, x ∈ wsX4_readRow := fun _ h => List.mem_cons_of_mem _ (List.mem_append_right _ h)
  refine z_lv (lv' := [(0, .ref (q 40))]) [0] rfl ?_
  obtain ⟨hv1, hv2, hv3⟩ := hv
  refine z_iconst (pc' := 1) X dX4_readRow_0 rfl ?_
  refine z_istore_n (pc' := 2) (lv' := [(1, .int (jI 0)), (0, .ref (q 40))]) X dX4_readRow_1 rfl rfl (by decide) rfl ?_
  refine z_iconst (pc' := 3) X dX4_readRow_2 rfl ?_
  refine z_istore_n (pc' := 4) (lv' := [(2, .int (jI 0)), (1, .int (jI 0)), (0, .ref (q 40))]) X dX4_readRow_3 rfl rfl (by decide) rfl ?_
  refine z_iconst (pc' := 5) X dX4_readRow_4 rfl ?_
  refine z_istore_n (pc' := 6) (lv' := [(3, .int (jI 0)), (2, .int (jI 0)), (1, .int (jI 0)), (0, .ref (q 40))]) X dX4_readRow_5 rfl rfl (by decide) rfl ?_
  have lp6 : ∀ (nF : Nat) (i : Int) (y : Int) (x : Int) (u1 : St) , ((0 ≤ i ∧ i ≤ d_) ∧ (∀ F, F ≠ 27 → u1 F = σ F) ∧ lv p_ set_ X_ Y_ (d_ - i.toNat) x y ∧ (∀ j, 0 ≤ j → j < i → RWk p_ set_ X_ Y_ j.toNat d_ 0 0 (u1 27 j)) ∧ (∀ k r, RWk p_ set_ X_ Y_ k (d_ - i.toNat) x y r → RWk p_ set_ X_ Y_ (i.toNat + k) d_ 0 0 r)) → ((5 - i).toNat : Nat) < nF → J p l e (headSpec wsX4_readRow ({ frames := 2, cells := 0, slots := 0, locals := 50 } : Room)).room s m args below meth c D A 5 (MQ below (va_Qv (fun (uu : St) => (∀ F, F ≠ 27 → uu F = σ F) ∧ ∀ j : Int, 0 ≤ j → j < (d_ : Int) → RWk p_ set_ X_ Y_ j.toNat d_ 0 0 (uu 27 j)) (Bw D (CW E q) A) A) args s 0 0 A) 6 [(3, .int (jI i)), (2, .int (jI y)), (1, .int (jI x)), (0, .ref (q 40))] [] (CW E q u1) := by
    intro nF
    induction nF with
    | zero => intro i y x u1  hI hn; exact absurd hn (Nat.not_lt_zero _)
    | succ nF ih6 =>
      intro i y x u1  hI hn
      obtain ⟨g1, g2, g3, g4, g5⟩ := hI
      have e26 : u1 26 0 = d_ := by rw [g2 26 (by decide)]; exact hv3
      have ib := rch_in hT _ _ _ g3.1
      have ibx : (-30 ≤ x ∧ x ≤ 30) ∧ (-10 ≤ y ∧ y ≤ 10) := by unfold inB at ib; exact ⟨ib.1, ib.2.1⟩
      refine z_iload_n (pc' := 7) X dX4_readRow_6 rfl 0 rfl rfl ?_
      refine z_aload_n (pc' := 8) X dX4_readRow_7 rfl 3 rfl rfl ?_
      refine z_get (pc' := 11) (C := RX4) (ref := "PivotBeats$PivotRow") (T := TX4) (N := 10) (v := .int (jI (u1 26 0))) X dX4_readRow_8 rfl hin4 5 rfl rfl 0 (by decide) (by decide +kernel) rfl rfl ?_
      refine z_icmp_ge (tgt := 101) (pc' := 14) X dX4_readRow_11 (by decide) rfl (by omega) (fun h11 => ?_) (fun h11 => ?_)
      · exact z_vret (post := (fun (uu : St) => (∀ F, F ≠ 27 → uu F = σ F) ∧ ∀ j : Int, 0 ≤ j → j < (d_ : Int) → RWk p_ set_ X_ Y_ j.toNat d_ 0 0 (uu 27 j))) X dX4_readRow_101 hret u1 (⟨g2, fun j j0 j1 => g4 j j0 (by omega)⟩)
      · refine z_iload_n (pc' := 15) X dX4_readRow_14 rfl 0 rfl rfl ?_
        refine z_iconst (pc' := 16) X dX4_readRow_15 rfl ?_
        refine z_icmp_ge (tgt := 101) (pc' := 19) X dX4_readRow_16 (by decide) rfl (by omega) (fun h16 => by exfalso; omega) (fun h16 => ?_)
        refine z_aload_n (pc' := 20) X dX4_readRow_19 rfl 3 rfl rfl ?_
        refine z_iload_n (pc' := 21) X dX4_readRow_20 rfl 2 rfl rfl ?_
        refine z_iload_n (pc' := 22) X dX4_readRow_21 rfl 1 rfl rfl ?_
        refine z_aload_n (pc' := 23) X dX4_readRow_22 rfl 3 rfl rfl ?_
        refine z_get (pc' := 26) (C := RX4) (ref := "PivotBeats$PivotRow") (T := TX4) (N := 10) (v := .int (jI (u1 26 0))) X dX4_readRow_23 rfl hin4 5 rfl rfl 0 (by decide) (by decide +kernel) rfl rfl ?_
        refine z_iload_n (pc' := 27) X dX4_readRow_26 rfl 0 rfl rfl ?_
        refine z_isub (pc' := 28) X dX4_readRow_27 rfl ?_
        refine z_iconst (pc' := 29) X dX4_readRow_28 rfl ?_
        refine z_isub (pc' := 30) X dX4_readRow_29 rfl ?_
        refine z_callVI (pc' := 33) (S := St) (As := [.int (jI x), .int (jI y), .int (jI (((u1 26 0) - i) - 1))]) (rest := []) X dX4_readRow_30 rfl (kX4_firstStep l D E q u1 x y (((u1 26 0) - i) - 1) p_ set_ X_ Y_ (LYn g2 hl) (DSn g2 hd) (by rw [g2 30 (by decide)]; exact hs) (by rw [e26]; omega)) (cwV 3 X.1.2.2.2.2 gX4_readRow_X4_firstStep rfl rfl rfl (by decide +kernel) ⟨Nat.le_of_ble_eq_true rfl, Nat.le_of_ble_eq_true rfl⟩) 5 rfl rfl rfl rfl (Nat.le_of_ble_eq_true rfl) (fun r30 u30 hp30 => ?_)
        obtain ⟨rfl, hp30⟩ := hp30
        rw [e26] at hp30
        rw [show ((d_ : Int) - i - 1).toNat + 1 = d_ - i.toNat by omega] at hp30
        have hcc := rrX hT (by omega) (by omega) g3 hp30
        refine z_istore (pc' := 35) (lv' := [(4, .int (jI r30)), (3, .int (jI i)), (2, .int (jI y)), (1, .int (jI x)), (0, .ref (q 40))]) X dX4_readRow_33 rfl (by decide) rfl ?_
        obtain ⟨cg, hc, er⟩ := hcc
        clear hp30
        have crn := hc.1
        have ec : r30 % 100 = cg % 20 ∧ r30 / 100 = cg / 20 := by omega
        refine z_iload (pc' := 37) X dX4_readRow_35 rfl 0 rfl ?_
        refine z_bipush (pc' := 39) X dX4_readRow_37 rfl rfl ?_
        refine z_icmp_ne (tgt := 43) (pc' := 42) X dX4_readRow_39 (by decide) rfl (by omega) (fun h39 => ?_) (fun h39 => by exfalso; omega)
        refine z_aload_n (pc' := 44) X dX4_readRow_43 rfl 4 rfl rfl ?_
        refine z_get (pc' := 47) (C := RX4) (ref := "PivotBeats$PivotRow") (T := TX4) (N := 10) (v := .ref (q 27)) X dX4_readRow_44 rfl hin4 5 rfl rfl 1 (by decide) (by decide +kernel) rfl rfl ?_
        refine z_iload_n (pc' := 48) X dX4_readRow_47 rfl 1 rfl rfl ?_
        refine z_iload (pc' := 50) X dX4_readRow_48 rfl 0 rfl ?_
        refine z_iast (pc' := 51) (f := u1 27) (n := 5) (w' := CW E q (up u1 27 i r30)) X dX4_readRow_50 rfl 24 rfl (by decide) (by omega) rfl ?_
        refine z_iload_n (pc' := 52) X dX4_readRow_51 rfl 3 rfl rfl ?_
        refine z_getsN (pc' := 55) (ref := "PivotBeats") (host := "PivotBeats") X dX4_readRow_52 rfl X.2.2.2.1.1.2.1 (X.2.2.2.1.2.2.1 ("PivotBeats$PivotRow", 88, "TWOS") (by decide +kernel)) rfl ?_
        refine z_iload (pc' := 57) X dX4_readRow_55 rfl 0 rfl ?_
        refine z_bipush (pc' := 59) X dX4_readRow_57 rfl rfl ?_
        refine z_irem (pc' := 60) X dX4_readRow_59 rfl (by omega) ?_
        refine z_ti (pc' := 61) (f := tw) X dX4_readRow_60 rfl X.2.2.2.1.2.1.2.1 (by decide) (by omega) ?_
        refine z_getsN (pc' := 64) (ref := "PivotBeats") (host := "PivotBeats") X dX4_readRow_61 rfl X.2.2.2.1.1.2.1 (X.2.2.2.1.2.2.1 ("PivotBeats$PivotRow", 88, "TWOS") (by decide +kernel)) rfl ?_
        refine z_iload (pc' := 66) X dX4_readRow_64 rfl 0 rfl ?_
        refine z_bipush (pc' := 68) X dX4_readRow_66 rfl rfl ?_
        refine z_idiv (pc' := 69) X dX4_readRow_68 rfl (by omega) ?_
        refine z_ti (pc' := 70) (f := tw) X dX4_readRow_69 rfl X.2.2.2.1.2.1.2.1 (by decide) (by omega) ?_
        refine z_isub (pc' := 71) X dX4_readRow_70 rfl ?_
        refine z_iadd (pc' := 72) X dX4_readRow_71 rfl ?_
        refine z_istore_n (pc' := 73) (lv' := [(1, .int (jI (x + ((tw (r30 % 100)) - (tw (r30 / 100)))))), (4, .int (jI r30)), (3, .int (jI i)), (2, .int (jI y)), (0, .ref (q 40))]) X dX4_readRow_72 rfl rfl (by decide) rfl ?_
        refine z_iload_n (pc' := 74) X dX4_readRow_73 rfl 3 rfl rfl ?_
        refine z_getsN (pc' := 77) (ref := "PivotBeats") (host := "PivotBeats") X dX4_readRow_74 rfl X.2.2.2.1.1.2.2 (X.2.2.2.1.2.2.1 ("PivotBeats$PivotRow", 91, "THREES") (by decide +kernel)) rfl ?_
        refine z_iload (pc' := 79) X dX4_readRow_77 rfl 1 rfl ?_
        refine z_bipush (pc' := 81) X dX4_readRow_79 rfl rfl ?_
        refine z_irem (pc' := 82) X dX4_readRow_81 rfl (by omega) ?_
        refine z_ti (pc' := 83) (f := th) X dX4_readRow_82 rfl X.2.2.2.1.2.1.2.2 (by decide) (by omega) ?_
        refine z_getsN (pc' := 86) (ref := "PivotBeats") (host := "PivotBeats") X dX4_readRow_83 rfl X.2.2.2.1.1.2.2 (X.2.2.2.1.2.2.1 ("PivotBeats$PivotRow", 91, "THREES") (by decide +kernel)) rfl ?_
        refine z_iload (pc' := 88) X dX4_readRow_86 rfl 1 rfl ?_
        refine z_bipush (pc' := 90) X dX4_readRow_88 rfl rfl ?_
        refine z_idiv (pc' := 91) X dX4_readRow_90 rfl (by omega) ?_
        refine z_ti (pc' := 92) (f := th) X dX4_readRow_91 rfl X.2.2.2.1.2.1.2.2 (by decide) (by omega) ?_
        refine z_isub (pc' := 93) X dX4_readRow_92 rfl ?_
        refine z_iadd (pc' := 94) X dX4_readRow_93 rfl ?_
        refine z_istore_n (pc' := 95) (lv' := [(2, .int (jI (y + ((th (r30 % 100)) - (th (r30 / 100)))))), (1, .int (jI (x + ((tw (r30 % 100)) - (tw (r30 / 100)))))), (4, .int (jI r30)), (3, .int (jI i)), (0, .ref (q 40))]) X dX4_readRow_94 rfl rfl (by decide) rfl ?_
        have hx : x + (tw (r30 % 100) - tw (r30 / 100)) = x + dX cg := by unfold dX; rw [ec.1, ec.2]
        have hy : y + (th (r30 % 100) - th (r30 / 100)) = y + dY cg := by unfold dY; rw [ec.1, ec.2]
        refine z_iinc (pc' := 98) (lv' := [(3, .int (jI (i + 1))), (2, .int (jI (y + ((th (r30 % 100)) - (th (r30 / 100)))))), (1, .int (jI (x + ((tw (r30 % 100)) - (tw (r30 / 100)))))), (4, .int (jI r30)), (0, .ref (q 40))]) X dX4_readRow_95 rfl 3 rfl (by decide) rfl ?_
        refine z_goto (tgt := 6) X dX4_readRow_98 (by decide) ?_
        refine z_lv (lv' := [(3, .int (jI (i + 1))), (2, .int (jI (y + ((th (r30 % 100)) - (th (r30 / 100)))))), (1, .int (jI (x + ((tw (r30 % 100)) - (tw (r30 / 100)))))), (0, .ref (q 40))]) [0, 1, 2, 4] rfl ?_
        exact ih6 (i + 1) (y + ((th (r30 % 100)) - (th (r30 / 100)))) (x + ((tw (r30 % 100)) - (tw (r30 / 100)))) (up u1 27 i r30)  (⟨by omega, fun F a => by rw [← g2 F a]; funext i; exact up_f _ _ _ _ a, rrV hT g1.1 (by omega) g3 hc hx hy, rrR g4 g5 hc er, rrK g1.1 (by omega) g5 hc hx hy⟩) (by omega)
  exact lp6 _ 0 0 0 σ  (⟨by omega, fun _ _ => rfl, hv2, fun j j0 j1 => by omega, fun k r h => by rw [show (0 : Int).toNat + k = k by simp]; exact h⟩) (Nat.lt_succ_self _)
set_option maxHeartbeats 4000000 in
set_option maxRecDepth 100000 in
theorem kX4_find (l : Launch) (D : va_G) (E : Nat → Nat) (q : Nat → Nat) (σ : St) (fp fq fs : Int) (hr : (20 ≤ fp ∧ fp ≤ 400) ∧ (20 ≤ fq ∧ fq ≤ 400) ∧ (0 ≤ fs ∧ fs ≤ 1048575)) (hpi : PIv σ) : CtV l D E yX4_find wsX4_find ({ frames := 3, cells := 0, slots := 0, locals := 74 } : Room) [.ref (q 40), .int (jI fp), .int (jI fq), .int (jI fs)] (CW E q σ) (CW E q) (fun (uu : St) => (∀ F, F < 26 → uu F = σ F) ∧ uu 28 0 = fp ∧ uu 29 0 = fq ∧ uu 30 0 = fs ∧ PR uu) := by
  refine mk_V (cc := cX4_find) (maxL := 5) (ret := none) (by decide) rfl (Nat.le_of_ble_eq_true rfl) ?_
  intro p e s m args below meth c A X hret
  have hin4 : ∀ x ∈ u_ws RX4 TX4 10, x ∈ wsX4_find := fun _ h => List.mem_cons_of_mem _ (List.mem_append_right _ h)
  refine z_lv (lv' := [(0, .ref (q 40)), (1, .int (jI fp)), (2, .int (jI fq)), (3, .int (jI fs))]) [0, 1, 2, 3] rfl ?_
  have hp0 := PIv_p hpi
  have tp := tin_all hr.1
  have tq := tin_all hr.2.1
  refine z_aload_n (pc' := 1) X dX4_find_0 rfl 0 rfl rfl ?_
  refine z_get (pc' := 4) (C := RX4) (ref := "PivotBeats$PivotRow") (T := TX4) (N := 10) (v := .int (jI (σ 28 0))) X dX4_find_1 rfl hin4 5 rfl rfl 2 (by decide) (by decide +kernel) rfl rfl ?_
  refine z_iload_n (pc' := 5) X dX4_find_4 rfl 1 rfl rfl ?_
  skip
  refine z_icmp_ne (tgt := 25) (pc' := 8) X dX4_find_5 (by decide) rfl (by omega) (fun h5 => ?_) (fun h5 => ?_)
  · refine z_aload_n (pc' := 26) X dX4_find_25 rfl 0 rfl rfl ?_
    refine z_iload_n (pc' := 27) X dX4_find_26 rfl 1 rfl rfl ?_
    refine z_put (pc' := 30) (C := RX4) (ref := "PivotBeats$PivotRow") (T := TX4) (N := 10) (ty := .int) (w' := CW E q (up σ 28 0 fp)) X dX4_find_27 rfl hin4 tyX4 tyX4_ok nmX4 5 rfl rfl 2 (by decide) (by decide +kernel) rfl rfl (by decide +kernel) rfl rfl (Nat.le_of_ble_eq_true rfl) rfl ?_
    refine z_aload_n (pc' := 31) X dX4_find_30 rfl 0 rfl rfl ?_
    refine z_iload_n (pc' := 32) X dX4_find_31 rfl 2 rfl rfl ?_
    refine z_put (pc' := 35) (C := RX4) (ref := "PivotBeats$PivotRow") (T := TX4) (N := 10) (ty := .int) (w' := CW E q (up (up σ 28 0 fp) 29 0 fq)) X dX4_find_32 rfl hin4 tyX4 tyX4_ok nmX4 5 rfl rfl 3 (by decide) (by decide +kernel) rfl rfl (by decide +kernel) rfl rfl (Nat.le_of_ble_eq_true rfl) rfl ?_
    refine z_aload_n (pc' := 36) X dX4_find_35 rfl 0 rfl rfl ?_
    refine z_iload_n (pc' := 37) X dX4_find_36 rfl 3 rfl rfl ?_
    refine z_put (pc' := 40) (C := RX4) (ref := "PivotBeats$PivotRow") (T := TX4) (N := 10) (ty := .int) (w' := CW E q (up (up (up σ 28 0 fp) 29 0 fq) 30 0 fs)) X dX4_find_37 rfl hin4 tyX4 tyX4_ok nmX4 5 rfl rfl 4 (by decide) (by decide +kernel) rfl rfl (by decide +kernel) rfl rfl (Nat.le_of_ble_eq_true rfl) rfl ?_
    refine z_aload_n (pc' := 41) X dX4_find_40 rfl 0 rfl rfl ?_
    refine z_bipush (pc' := 43) X dX4_find_41 rfl rfl ?_
    refine z_put (pc' := 46) (C := RX4) (ref := "PivotBeats$PivotRow") (T := TX4) (N := 10) (ty := .int) (w' := CW E q (up (up (up (up σ 28 0 fp) 29 0 fq) 30 0 fs) 26 0 (-9))) X dX4_find_43 rfl hin4 tyX4 tyX4_ok nmX4 5 rfl rfl 0 (by decide) (by decide +kernel) rfl rfl (by decide +kernel) rfl rfl (Nat.le_of_ble_eq_true rfl) rfl ?_
    refine z_aload_n (pc' := 47) X dX4_find_46 rfl 0 rfl rfl ?_
    refine z_get (pc' := 50) (C := RX4) (ref := "PivotBeats$PivotRow") (T := TX4) (N := 10) (v := .int (jI fp)) X dX4_find_47 rfl hin4 5 rfl rfl 2 (by decide) (by decide +kernel) rfl rfl ?_
    refine z_callPNL (pc' := 53) (S := Unit) (As := [.int (jI fp)]) (rest := []) X dX4_find_50 rfl (kX5_restOf l D E fp  (by omega)) ⟨va_cnB 1 X.1.2.2.2.2 gX4_find_X5_restOf_n44 rfl rfl rfl (X.2.2.2.1.2.2.2 ("PivotBeats$PivotRow", 44, ⟨"PivotBeats", "restOf", "(I)J"⟩) (by decide +kernel)) (X.1.2.2.2.2 _ (by decide +kernel)) (by decide +kernel) ⟨Nat.le_of_ble_eq_true rfl, Nat.le_of_ble_eq_true rfl⟩, X.1.2.2.2.2 _ (by decide +kernel), trivial⟩ rfl rfl (Nat.le_of_ble_eq_true rfl) (fun r50 u50 hp50 => ?_)
    replace hp50 := hp50.symm; subst hp50
    refine z_aload_n (pc' := 54) X dX4_find_53 rfl 0 rfl rfl ?_
    refine z_get (pc' := 57) (C := RX4) (ref := "PivotBeats$PivotRow") (T := TX4) (N := 10) (v := .int (jI fq)) X dX4_find_54 rfl hin4 5 rfl rfl 3 (by decide) (by decide +kernel) rfl rfl ?_
    refine z_callPNL (pc' := 60) (S := Unit) (As := [.int (jI fq)]) (rest := [.long (jL (rsF fp))]) X dX4_find_57 rfl (kX5_restOf l D E fq  (by omega)) ⟨va_cnB 1 X.1.2.2.2.2 gX4_find_X5_restOf_n44 rfl rfl rfl (X.2.2.2.1.2.2.2 ("PivotBeats$PivotRow", 44, ⟨"PivotBeats", "restOf", "(I)J"⟩) (by decide +kernel)) (X.1.2.2.2.2 _ (by decide +kernel)) (by decide +kernel) ⟨Nat.le_of_ble_eq_true rfl, Nat.le_of_ble_eq_true rfl⟩, X.1.2.2.2.2 _ (by decide +kernel), trivial⟩ rfl rfl (Nat.le_of_ble_eq_true rfl) (fun r57 u57 hp57 => ?_)
    replace hp57 := hp57.symm; subst hp57
    refine z_lcmp_eq (tgt := 65) (pc' := 64) X dX4_find_60 (pc1 := 61) rfl dX4_find_61 (by decide) rfl (by omega) (fun h60 => ?_) (fun h60 => ?_)
    · refine z_aload_n (pc' := 66) X dX4_find_65 rfl 0 rfl rfl ?_
      refine z_callVV (pc' := 69) (S := St) (As := []) (rest := []) X dX4_find_66 rfl (kX4_layOutPlaces l D E q (up (up (up (up σ 28 0 fp) 29 0 fq) 30 0 fs) 26 0 (-9))   (hr.1)) (cwV 0 X.1.2.2.2.2 gX4_find_X4_layOutPlaces rfl rfl rfl (by decide +kernel) ⟨Nat.le_of_ble_eq_true rfl, Nat.le_of_ble_eq_true rfl⟩) 5 rfl rfl rfl rfl (Nat.le_of_ble_eq_true rfl) (fun u66 hp66 => ?_)
      obtain ⟨hn66, hl66⟩ := hp66
      refine z_aload_n (pc' := 70) X dX4_find_69 rfl 0 rfl rfl ?_
      refine z_callVV (pc' := 73) (S := St) (As := []) (rest := []) X dX4_find_70 rfl (kX4_collectSteps l D E q u66   (by rw [hn66 30 (by decide) (by decide)]; exact hr.2.2)) (cwV 0 X.1.2.2.2.2 gX4_find_X4_collectSteps rfl rfl rfl (by decide +kernel) ⟨Nat.le_of_ble_eq_true rfl, Nat.le_of_ble_eq_true rfl⟩) 5 rfl rfl rfl rfl (Nat.le_of_ble_eq_true rfl) (fun u70 hp70 => ?_)
      obtain ⟨hn70, hs70⟩ := hp70
      have p28 : u70 28 0 = fp := by rw [hn70 28 (by decide), hn66 28 (by decide) (by decide)]; rfl
      have q28 : u70 29 0 = fq := by rw [hn70 29 (by decide), hn66 29 (by decide) (by decide)]; rfl
      have s28 : u70 30 0 = fs := by rw [hn70 30 (by decide), hn66 30 (by decide) (by decide)]; rfl
      have ly70 : LY u70 fp := LYk hn70 hl66
      have st70 : STb u70 fs 400 := by have := hs70; rw [hn66 30 (by decide) (by decide)] at this; exact this
      have tg := TG_of hr.1 hr.2.1 h60
      have tgi := (TG_rng hr.1 hr.2.1 tg).2.2
      refine z_aload_n (pc' := 74) X dX4_find_73 rfl 0 rfl rfl ?_
      refine z_aload_n (pc' := 75) X dX4_find_74 rfl 0 rfl rfl ?_
      refine z_aload_n (pc' := 76) X dX4_find_75 rfl 0 rfl rfl ?_
      refine z_get (pc' := 79) (C := RX4) (ref := "PivotBeats$PivotRow") (T := TX4) (N := 10) (v := .int (jI (u70 29 0))) X dX4_find_76 rfl hin4 5 rfl rfl 3 (by decide) (by decide +kernel) rfl rfl ?_
      refine z_iconst (pc' := 80) X dX4_find_79 rfl ?_
      refine z_callPNI (pc' := 83) (S := Unit) (As := [.int (jI (u70 29 0)), .int (jI 2)]) (rest := [.ref (q 40), .ref (q 40)]) X dX4_find_80 rfl (kX5_countOfFactor l D E (u70 29 0) 2  (by rw [q28]; omega)) ⟨va_cnB 2 X.1.2.2.2.2 gX4_find_X5_countOfFactor_n54 rfl rfl rfl (X.2.2.2.1.2.2.2 ("PivotBeats$PivotRow", 54, ⟨"PivotBeats", "countOfFactor", "(II)I"⟩) (by decide +kernel)) (X.1.2.2.2.2 _ (by decide +kernel)) (by decide +kernel) ⟨Nat.le_of_ble_eq_true rfl, Nat.le_of_ble_eq_true rfl⟩, X.1.2.2.2.2 _ (by decide +kernel), trivial⟩ rfl rfl (Nat.le_of_ble_eq_true rfl) (fun r80 u80 hp80 => ?_)
      replace hp80 := hp80.symm; subst hp80
      refine z_aload_n (pc' := 84) X dX4_find_83 rfl 0 rfl rfl ?_
      refine z_get (pc' := 87) (C := RX4) (ref := "PivotBeats$PivotRow") (T := TX4) (N := 10) (v := .int (jI (u70 28 0))) X dX4_find_84 rfl hin4 5 rfl rfl 2 (by decide) (by decide +kernel) rfl rfl ?_
      refine z_iconst (pc' := 88) X dX4_find_87 rfl ?_
      refine z_callPNI (pc' := 91) (S := Unit) (As := [.int (jI (u70 28 0)), .int (jI 2)]) (rest := [.int (jI (tin 2 (u70 29 0))), .ref (q 40), .ref (q 40)]) X dX4_find_88 rfl (kX5_countOfFactor l D E (u70 28 0) 2  (by rw [p28]; omega)) ⟨va_cnB 2 X.1.2.2.2.2 gX4_find_X5_countOfFactor_n54 rfl rfl rfl (X.2.2.2.1.2.2.2 ("PivotBeats$PivotRow", 54, ⟨"PivotBeats", "countOfFactor", "(II)I"⟩) (by decide +kernel)) (X.1.2.2.2.2 _ (by decide +kernel)) (by decide +kernel) ⟨Nat.le_of_ble_eq_true rfl, Nat.le_of_ble_eq_true rfl⟩, X.1.2.2.2.2 _ (by decide +kernel), trivial⟩ rfl rfl (Nat.le_of_ble_eq_true rfl) (fun r88 u88 hp88 => ?_)
      replace hp88 := hp88.symm; subst hp88
      refine z_isub (pc' := 92) X dX4_find_91 rfl ?_
      refine z_aload_n (pc' := 93) X dX4_find_92 rfl 0 rfl rfl ?_
      refine z_get (pc' := 96) (C := RX4) (ref := "PivotBeats$PivotRow") (T := TX4) (N := 10) (v := .int (jI (u70 29 0))) X dX4_find_93 rfl hin4 5 rfl rfl 3 (by decide) (by decide +kernel) rfl rfl ?_
      refine z_iconst (pc' := 97) X dX4_find_96 rfl ?_
      refine z_callPNI (pc' := 100) (S := Unit) (As := [.int (jI (u70 29 0)), .int (jI 3)]) (rest := [.int (jI ((tin 2 (u70 29 0)) - (tin 2 (u70 28 0)))), .ref (q 40), .ref (q 40)]) X dX4_find_97 rfl (kX5_countOfFactor l D E (u70 29 0) 3  (by rw [q28]; omega)) ⟨va_cnB 2 X.1.2.2.2.2 gX4_find_X5_countOfFactor_n54 rfl rfl rfl (X.2.2.2.1.2.2.2 ("PivotBeats$PivotRow", 54, ⟨"PivotBeats", "countOfFactor", "(II)I"⟩) (by decide +kernel)) (X.1.2.2.2.2 _ (by decide +kernel)) (by decide +kernel) ⟨Nat.le_of_ble_eq_true rfl, Nat.le_of_ble_eq_true rfl⟩, X.1.2.2.2.2 _ (by decide +kernel), trivial⟩ rfl rfl (Nat.le_of_ble_eq_true rfl) (fun r97 u97 hp97 => ?_)
      replace hp97 := hp97.symm; subst hp97
      refine z_aload_n (pc' := 101) X dX4_find_100 rfl 0 rfl rfl ?_
      refine z_get (pc' := 104) (C := RX4) (ref := "PivotBeats$PivotRow") (T := TX4) (N := 10) (v := .int (jI (u70 28 0))) X dX4_find_101 rfl hin4 5 rfl rfl 2 (by decide) (by decide +kernel) rfl rfl ?_
      refine z_iconst (pc' := 105) X dX4_find_104 rfl ?_
      refine z_callPNI (pc' := 108) (S := Unit) (As := [.int (jI (u70 28 0)), .int (jI 3)]) (rest := [.int (jI (tin 3 (u70 29 0))), .int (jI ((tin 2 (u70 29 0)) - (tin 2 (u70 28 0)))), .ref (q 40), .ref (q 40)]) X dX4_find_105 rfl (kX5_countOfFactor l D E (u70 28 0) 3  (by rw [p28]; omega)) ⟨va_cnB 2 X.1.2.2.2.2 gX4_find_X5_countOfFactor_n54 rfl rfl rfl (X.2.2.2.1.2.2.2 ("PivotBeats$PivotRow", 54, ⟨"PivotBeats", "countOfFactor", "(II)I"⟩) (by decide +kernel)) (X.1.2.2.2.2 _ (by decide +kernel)) (by decide +kernel) ⟨Nat.le_of_ble_eq_true rfl, Nat.le_of_ble_eq_true rfl⟩, X.1.2.2.2.2 _ (by decide +kernel), trivial⟩ rfl rfl (Nat.le_of_ble_eq_true rfl) (fun r105 u105 hp105 => ?_)
      replace hp105 := hp105.symm; subst hp105
      refine z_isub (pc' := 109) X dX4_find_108 rfl ?_
      refine z_callVI (pc' := 112) (S := St) (As := [.int (jI ((tin 2 (u70 29 0)) - (tin 2 (u70 28 0)))), .int (jI ((tin 3 (u70 29 0)) - (tin 3 (u70 28 0))))]) (rest := [.ref (q 40)]) X dX4_find_109 rfl (kX4_placeOf l D E q u70 ((tin 2 (u70 29 0)) - (tin 2 (u70 28 0))) ((tin 3 (u70 29 0)) - (tin 3 (u70 28 0))) fp (ly70) (by rw [q28, p28]; omega)) (cwV 2 X.1.2.2.2.2 gX4_find_X4_placeOf rfl rfl rfl (by decide +kernel) ⟨Nat.le_of_ble_eq_true rfl, Nat.le_of_ble_eq_true rfl⟩) 5 rfl rfl rfl rfl (Nat.le_of_ble_eq_true rfl) (fun r109 u109 hp109 => ?_)
      obtain ⟨rfl, hp109⟩ := hp109
      have pl109 : PLC u70 fp (tin 2 fq - tin 2 fp) (tin 3 fq - tin 3 fp) r109 := by rw [q28, p28] at hp109; exact hp109
      refine z_callVV (pc' := 115) (S := St) (As := [.int (jI r109)]) (rest := []) X dX4_find_112 rfl (kX4_measureFrom l D E q u70 r109 fp fs (tin 2 fq - tin 2 fp) (tin 3 fq - tin 3 fp) (ly70) (st70) (tgi) (fiF pl109 tgi)) (cwV 1 X.1.2.2.2.2 gX4_find_X4_measureFrom rfl rfl rfl (by decide +kernel) ⟨Nat.le_of_ble_eq_true rfl, Nat.le_of_ble_eq_true rfl⟩) 5 rfl rfl rfl rfl (Nat.le_of_ble_eq_true rfl) (fun u112 hp112 => ?_)
      obtain ⟨hn112, hd112⟩ := hp112
      refine z_aload_n (pc' := 116) X dX4_find_115 rfl 0 rfl rfl ?_
      refine z_iconst (pc' := 117) X dX4_find_116 rfl ?_
      refine z_iconst (pc' := 118) X dX4_find_117 rfl ?_
      refine z_callVI (pc' := 121) (S := St) (As := [.int (jI 0), .int (jI 0)]) (rest := []) X dX4_find_118 rfl (kX4_placeOf l D E q u112 0 0 fp (LYm hn112 ly70) (by omega)) (cwV 2 X.1.2.2.2.2 gX4_find_X4_placeOf rfl rfl rfl (by decide +kernel) ⟨Nat.le_of_ble_eq_true rfl, Nat.le_of_ble_eq_true rfl⟩) 5 rfl rfl rfl rfl (Nat.le_of_ble_eq_true rfl) (fun r118 u118 hp118 => ?_)
      obtain ⟨rfl, hp118⟩ := hp118
      have nr := PLC_r hp118
      have f26 : u112 26 0 = -9 := by rw [hn112 26 (by decide) (by decide), hn70 26 (by decide), hn66 26 (by decide) (by decide)]; rfl
      refine z_istore (pc' := 123) (lv' := [(4, .int (jI r118)), (0, .ref (q 40)), (1, .int (jI fp)), (2, .int (jI fq)), (3, .int (jI fs))]) X dX4_find_121 rfl (by decide) rfl ?_
      refine z_iload (pc' := 125) X dX4_find_123 rfl 0 rfl ?_
      refine z_bipush (pc' := 127) X dX4_find_125 rfl rfl ?_
      refine z_icmp_eq (tgt := 157) (pc' := 130) X dX4_find_127 (by decide) rfl (by omega) (fun h127 => ?_) (fun h127 => ?_)
      · exact z_vret (post := (fun (uu : St) => (∀ F, F < 26 → uu F = σ F) ∧ uu 28 0 = fp ∧ uu 29 0 = fq ∧ uu 30 0 = fs ∧ PR uu)) X dX4_find_157 hret u112 (by first | exact fnX1 hn66 hn70 hn112 p28 q28 s28 f26 hr tg hd112 hp118 h127 | exact fnX2 hn66 hn70 hn112 p28 q28 s28 f26 hr tg hd112 pn h139 | exact fnX3 hn66 hn70 hn112 hn154 p28 q28 s28 tg dg1 dg2 dg3 hr154)
      · have pn := PLC_n hp118 h127
        have dr := DST_rng hd112 pn.2.1
        refine z_aload_n (pc' := 131) X dX4_find_130 rfl 1 rfl rfl ?_
        refine z_get (pc' := 134) (C := RX4) (ref := "PivotBeats$PivotRow") (T := TX4) (N := 10) (v := .ref (q 34)) X dX4_find_131 rfl hin4 5 rfl rfl 8 (by decide) (by decide +kernel) rfl rfl ?_
        refine z_iload (pc' := 136) X dX4_find_134 rfl 0 rfl ?_
        refine z_iald (pc' := 137) (f := u112 34) (n := 105) X dX4_find_136 rfl 28 rfl (by decide) (by omega) ?_
        refine z_bipush (pc' := 139) X dX4_find_137 rfl rfl ?_
        refine z_icmp_eq (tgt := 157) (pc' := 142) X dX4_find_139 (by decide) rfl (by omega) (fun h139 => ?_) (fun h139 => ?_)
        · exact z_vret (post := (fun (uu : St) => (∀ F, F < 26 → uu F = σ F) ∧ uu 28 0 = fp ∧ uu 29 0 = fq ∧ uu 30 0 = fs ∧ PR uu)) X dX4_find_157 hret u112 (by first | exact fnX1 hn66 hn70 hn112 p28 q28 s28 f26 hr tg hd112 hp118 h127 | exact fnX2 hn66 hn70 hn112 p28 q28 s28 f26 hr tg hd112 pn h139 | exact fnX3 hn66 hn70 hn112 hn154 p28 q28 s28 tg dg1 dg2 dg3 hr154)
        · obtain ⟨dg, dg1, dg3, dg2⟩ := fiD hd112 pn h139
          have ly112 : LY (up u112 26 0 (u112 34 r118)) fp := show LY u112 fp from LYm hn112 ly70
          have ds112 : DST (up u112 26 0 (u112 34 r118)) fp fs (tin 2 fq - tin 2 fp) (tin 3 fq - tin 3 fp) := hd112
          have fs112 : (up u112 26 0 (u112 34 r118)) 30 0 = fs := by show u112 30 0 = fs; rw [hn112 30 (by decide) (by decide)]; exact s28
          refine z_aload_n (pc' := 143) X dX4_find_142 rfl 1 rfl rfl ?_
          refine z_aload_n (pc' := 144) X dX4_find_143 rfl 1 rfl rfl ?_
          refine z_get (pc' := 147) (C := RX4) (ref := "PivotBeats$PivotRow") (T := TX4) (N := 10) (v := .ref (q 34)) X dX4_find_144 rfl hin4 5 rfl rfl 8 (by decide) (by decide +kernel) rfl rfl ?_
          refine z_iload (pc' := 149) X dX4_find_147 rfl 0 rfl ?_
          refine z_iald (pc' := 150) (f := u112 34) (n := 105) X dX4_find_149 rfl 28 rfl (by decide) (by omega) ?_
          refine z_put (pc' := 153) (C := RX4) (ref := "PivotBeats$PivotRow") (T := TX4) (N := 10) (ty := .int) (w' := CW E q (up u112 26 0 (u112 34 r118))) X dX4_find_150 rfl hin4 tyX4 tyX4_ok nmX4 5 rfl rfl 0 (by decide) (by decide +kernel) rfl rfl (by decide +kernel) rfl rfl (Nat.le_of_ble_eq_true rfl) rfl ?_
          refine z_aload_n (pc' := 154) X dX4_find_153 rfl 1 rfl rfl ?_
          refine z_callVV (pc' := 157) (S := St) (As := []) (rest := []) X dX4_find_154 rfl (kX4_readRow l D E q (up u112 26 0 (u112 34 r118))  fp fs (tin 2 fq - tin 2 fp) (tin 3 fq - tin 3 fp) dg (ly112) (ds112) (⟨fs112, hr.2.2⟩) (tgi) (⟨dg1, dg2, dg3⟩)) (cwV 0 X.1.2.2.2.2 gX4_find_X4_readRow rfl rfl rfl (by decide +kernel) ⟨Nat.le_of_ble_eq_true rfl, Nat.le_of_ble_eq_true rfl⟩) 5 rfl rfl rfl rfl (Nat.le_of_ble_eq_true rfl) (fun u154 hp154 => ?_)
          obtain ⟨hn154, hr154⟩ := hp154
          exact z_vret (post := (fun (uu : St) => (∀ F, F < 26 → uu F = σ F) ∧ uu 28 0 = fp ∧ uu 29 0 = fq ∧ uu 30 0 = fs ∧ PR uu)) X dX4_find_157 hret u154 (by first | exact fnX1 hn66 hn70 hn112 p28 q28 s28 f26 hr tg hd112 hp118 h127 | exact fnX2 hn66 hn70 hn112 p28 q28 s28 f26 hr tg hd112 pn h139 | exact fnX3 hn66 hn70 hn112 hn154 p28 q28 s28 tg dg1 dg2 dg3 hr154)
    · exact z_vret (post := (fun (uu : St) => (∀ F, F < 26 → uu F = σ F) ∧ uu 28 0 = fp ∧ uu 29 0 = fq ∧ uu 30 0 = fs ∧ PR uu)) X dX4_find_64 hret (up (up (up (up σ 28 0 fp) 29 0 fq) 30 0 fs) 26 0 (-9)) (⟨fnA, rfl, rfl, rfl, Or.inl ⟨rfl, fun X Y z => absurd (TG_rs hr.1 hr.2.1 z) h60⟩⟩)
  · refine z_aload_n (pc' := 9) X dX4_find_8 rfl 0 rfl rfl ?_
    refine z_get (pc' := 12) (C := RX4) (ref := "PivotBeats$PivotRow") (T := TX4) (N := 10) (v := .int (jI (σ 29 0))) X dX4_find_9 rfl hin4 5 rfl rfl 3 (by decide) (by decide +kernel) rfl rfl ?_
    refine z_iload_n (pc' := 13) X dX4_find_12 rfl 2 rfl rfl ?_
    refine z_icmp_ne (tgt := 25) (pc' := 16) X dX4_find_13 (by decide) rfl (by (have := PIv_q hpi (by omega); omega)) (fun h13 => ?_) (fun h13 => ?_)
    · refine z_aload_n (pc' := 26) X dX4_find_25 rfl 0 rfl rfl ?_
      refine z_iload_n (pc' := 27) X dX4_find_26 rfl 1 rfl rfl ?_
      refine z_put (pc' := 30) (C := RX4) (ref := "PivotBeats$PivotRow") (T := TX4) (N := 10) (ty := .int) (w' := CW E q (up σ 28 0 fp)) X dX4_find_27 rfl hin4 tyX4 tyX4_ok nmX4 5 rfl rfl 2 (by decide) (by decide +kernel) rfl rfl (by decide +kernel) rfl rfl (Nat.le_of_ble_eq_true rfl) rfl ?_
      refine z_aload_n (pc' := 31) X dX4_find_30 rfl 0 rfl rfl ?_
      refine z_iload_n (pc' := 32) X dX4_find_31 rfl 2 rfl rfl ?_
      refine z_put (pc' := 35) (C := RX4) (ref := "PivotBeats$PivotRow") (T := TX4) (N := 10) (ty := .int) (w' := CW E q (up (up σ 28 0 fp) 29 0 fq)) X dX4_find_32 rfl hin4 tyX4 tyX4_ok nmX4 5 rfl rfl 3 (by decide) (by decide +kernel) rfl rfl (by decide +kernel) rfl rfl (Nat.le_of_ble_eq_true rfl) rfl ?_
      refine z_aload_n (pc' := 36) X dX4_find_35 rfl 0 rfl rfl ?_
      refine z_iload_n (pc' := 37) X dX4_find_36 rfl 3 rfl rfl ?_
      refine z_put (pc' := 40) (C := RX4) (ref := "PivotBeats$PivotRow") (T := TX4) (N := 10) (ty := .int) (w' := CW E q (up (up (up σ 28 0 fp) 29 0 fq) 30 0 fs)) X dX4_find_37 rfl hin4 tyX4 tyX4_ok nmX4 5 rfl rfl 4 (by decide) (by decide +kernel) rfl rfl (by decide +kernel) rfl rfl (Nat.le_of_ble_eq_true rfl) rfl ?_
      refine z_aload_n (pc' := 41) X dX4_find_40 rfl 0 rfl rfl ?_
      refine z_bipush (pc' := 43) X dX4_find_41 rfl rfl ?_
      refine z_put (pc' := 46) (C := RX4) (ref := "PivotBeats$PivotRow") (T := TX4) (N := 10) (ty := .int) (w' := CW E q (up (up (up (up σ 28 0 fp) 29 0 fq) 30 0 fs) 26 0 (-9))) X dX4_find_43 rfl hin4 tyX4 tyX4_ok nmX4 5 rfl rfl 0 (by decide) (by decide +kernel) rfl rfl (by decide +kernel) rfl rfl (Nat.le_of_ble_eq_true rfl) rfl ?_
      refine z_aload_n (pc' := 47) X dX4_find_46 rfl 0 rfl rfl ?_
      refine z_get (pc' := 50) (C := RX4) (ref := "PivotBeats$PivotRow") (T := TX4) (N := 10) (v := .int (jI fp)) X dX4_find_47 rfl hin4 5 rfl rfl 2 (by decide) (by decide +kernel) rfl rfl ?_
      refine z_callPNL (pc' := 53) (S := Unit) (As := [.int (jI fp)]) (rest := []) X dX4_find_50 rfl (kX5_restOf l D E fp  (by omega)) ⟨va_cnB 1 X.1.2.2.2.2 gX4_find_X5_restOf_n44 rfl rfl rfl (X.2.2.2.1.2.2.2 ("PivotBeats$PivotRow", 44, ⟨"PivotBeats", "restOf", "(I)J"⟩) (by decide +kernel)) (X.1.2.2.2.2 _ (by decide +kernel)) (by decide +kernel) ⟨Nat.le_of_ble_eq_true rfl, Nat.le_of_ble_eq_true rfl⟩, X.1.2.2.2.2 _ (by decide +kernel), trivial⟩ rfl rfl (Nat.le_of_ble_eq_true rfl) (fun r50 u50 hp50 => ?_)
      replace hp50 := hp50.symm; subst hp50
      refine z_aload_n (pc' := 54) X dX4_find_53 rfl 0 rfl rfl ?_
      refine z_get (pc' := 57) (C := RX4) (ref := "PivotBeats$PivotRow") (T := TX4) (N := 10) (v := .int (jI fq)) X dX4_find_54 rfl hin4 5 rfl rfl 3 (by decide) (by decide +kernel) rfl rfl ?_
      refine z_callPNL (pc' := 60) (S := Unit) (As := [.int (jI fq)]) (rest := [.long (jL (rsF fp))]) X dX4_find_57 rfl (kX5_restOf l D E fq  (by omega)) ⟨va_cnB 1 X.1.2.2.2.2 gX4_find_X5_restOf_n44 rfl rfl rfl (X.2.2.2.1.2.2.2 ("PivotBeats$PivotRow", 44, ⟨"PivotBeats", "restOf", "(I)J"⟩) (by decide +kernel)) (X.1.2.2.2.2 _ (by decide +kernel)) (by decide +kernel) ⟨Nat.le_of_ble_eq_true rfl, Nat.le_of_ble_eq_true rfl⟩, X.1.2.2.2.2 _ (by decide +kernel), trivial⟩ rfl rfl (Nat.le_of_ble_eq_true rfl) (fun r57 u57 hp57 => ?_)
      replace hp57 := hp57.symm; subst hp57
      refine z_lcmp_eq (tgt := 65) (pc' := 64) X dX4_find_60 (pc1 := 61) rfl dX4_find_61 (by decide) rfl (by omega) (fun h60 => ?_) (fun h60 => ?_)
      · refine z_aload_n (pc' := 66) X dX4_find_65 rfl 0 rfl rfl ?_
        refine z_callVV (pc' := 69) (S := St) (As := []) (rest := []) X dX4_find_66 rfl (kX4_layOutPlaces l D E q (up (up (up (up σ 28 0 fp) 29 0 fq) 30 0 fs) 26 0 (-9))   (hr.1)) (cwV 0 X.1.2.2.2.2 gX4_find_X4_layOutPlaces rfl rfl rfl (by decide +kernel) ⟨Nat.le_of_ble_eq_true rfl, Nat.le_of_ble_eq_true rfl⟩) 5 rfl rfl rfl rfl (Nat.le_of_ble_eq_true rfl) (fun u66 hp66 => ?_)
        obtain ⟨hn66, hl66⟩ := hp66
        refine z_aload_n (pc' := 70) X dX4_find_69 rfl 0 rfl rfl ?_
        refine z_callVV (pc' := 73) (S := St) (As := []) (rest := []) X dX4_find_70 rfl (kX4_collectSteps l D E q u66   (by rw [hn66 30 (by decide) (by decide)]; exact hr.2.2)) (cwV 0 X.1.2.2.2.2 gX4_find_X4_collectSteps rfl rfl rfl (by decide +kernel) ⟨Nat.le_of_ble_eq_true rfl, Nat.le_of_ble_eq_true rfl⟩) 5 rfl rfl rfl rfl (Nat.le_of_ble_eq_true rfl) (fun u70 hp70 => ?_)
        obtain ⟨hn70, hs70⟩ := hp70
        have p28 : u70 28 0 = fp := by rw [hn70 28 (by decide), hn66 28 (by decide) (by decide)]; rfl
        have q28 : u70 29 0 = fq := by rw [hn70 29 (by decide), hn66 29 (by decide) (by decide)]; rfl
        have s28 : u70 30 0 = fs := by rw [hn70 30 (by decide), hn66 30 (by decide) (by decide)]; rfl
        have ly70 : LY u70 fp := LYk hn70 hl66
        have st70 : STb u70 fs 400 := by have := hs70; rw [hn66 30 (by decide) (by decide)] at this; exact this
        have tg := TG_of hr.1 hr.2.1 h60
        have tgi := (TG_rng hr.1 hr.2.1 tg).2.2
        refine z_aload_n (pc' := 74) X dX4_find_73 rfl 0 rfl rfl ?_
        refine z_aload_n (pc' := 75) X dX4_find_74 rfl 0 rfl rfl ?_
        refine z_aload_n (pc' := 76) X dX4_find_75 rfl 0 rfl rfl ?_
        refine z_get (pc' := 79) (C := RX4) (ref := "PivotBeats$PivotRow") (T := TX4) (N := 10) (v := .int (jI (u70 29 0))) X dX4_find_76 rfl hin4 5 rfl rfl 3 (by decide) (by decide +kernel) rfl rfl ?_
        refine z_iconst (pc' := 80) X dX4_find_79 rfl ?_
        refine z_callPNI (pc' := 83) (S := Unit) (As := [.int (jI (u70 29 0)), .int (jI 2)]) (rest := [.ref (q 40), .ref (q 40)]) X dX4_find_80 rfl (kX5_countOfFactor l D E (u70 29 0) 2  (by rw [q28]; omega)) ⟨va_cnB 2 X.1.2.2.2.2 gX4_find_X5_countOfFactor_n54 rfl rfl rfl (X.2.2.2.1.2.2.2 ("PivotBeats$PivotRow", 54, ⟨"PivotBeats", "countOfFactor", "(II)I"⟩) (by decide +kernel)) (X.1.2.2.2.2 _ (by decide +kernel)) (by decide +kernel) ⟨Nat.le_of_ble_eq_true rfl, Nat.le_of_ble_eq_true rfl⟩, X.1.2.2.2.2 _ (by decide +kernel), trivial⟩ rfl rfl (Nat.le_of_ble_eq_true rfl) (fun r80 u80 hp80 => ?_)
        replace hp80 := hp80.symm; subst hp80
        refine z_aload_n (pc' := 84) X dX4_find_83 rfl 0 rfl rfl ?_
        refine z_get (pc' := 87) (C := RX4) (ref := "PivotBeats$PivotRow") (T := TX4) (N := 10) (v := .int (jI (u70 28 0))) X dX4_find_84 rfl hin4 5 rfl rfl 2 (by decide) (by decide +kernel) rfl rfl ?_
        refine z_iconst (pc' := 88) X dX4_find_87 rfl ?_
        refine z_callPNI (pc' := 91) (S := Unit) (As := [.int (jI (u70 28 0)), .int (jI 2)]) (rest := [.int (jI (tin 2 (u70 29 0))), .ref (q 40), .ref (q 40)]) X dX4_find_88 rfl (kX5_countOfFactor l D E (u70 28 0) 2  (by rw [p28]; omega)) ⟨va_cnB 2 X.1.2.2.2.2 gX4_find_X5_countOfFactor_n54 rfl rfl rfl (X.2.2.2.1.2.2.2 ("PivotBeats$PivotRow", 54, ⟨"PivotBeats", "countOfFactor", "(II)I"⟩) (by decide +kernel)) (X.1.2.2.2.2 _ (by decide +kernel)) (by decide +kernel) ⟨Nat.le_of_ble_eq_true rfl, Nat.le_of_ble_eq_true rfl⟩, X.1.2.2.2.2 _ (by decide +kernel), trivial⟩ rfl rfl (Nat.le_of_ble_eq_true rfl) (fun r88 u88 hp88 => ?_)
        replace hp88 := hp88.symm; subst hp88
        refine z_isub (pc' := 92) X dX4_find_91 rfl ?_
        refine z_aload_n (pc' := 93) X dX4_find_92 rfl 0 rfl rfl ?_
        refine z_get (pc' := 96) (C := RX4) (ref := "PivotBeats$PivotRow") (T := TX4) (N := 10) (v := .int (jI (u70 29 0))) X dX4_find_93 rfl hin4 5 rfl rfl 3 (by decide) (by decide +kernel) rfl rfl ?_
        refine z_iconst (pc' := 97) X dX4_find_96 rfl ?_
        refine z_callPNI (pc' := 100) (S := Unit) (As := [.int (jI (u70 29 0)), .int (jI 3)]) (rest := [.int (jI ((tin 2 (u70 29 0)) - (tin 2 (u70 28 0)))), .ref (q 40), .ref (q 40)]) X dX4_find_97 rfl (kX5_countOfFactor l D E (u70 29 0) 3  (by rw [q28]; omega)) ⟨va_cnB 2 X.1.2.2.2.2 gX4_find_X5_countOfFactor_n54 rfl rfl rfl (X.2.2.2.1.2.2.2 ("PivotBeats$PivotRow", 54, ⟨"PivotBeats", "countOfFactor", "(II)I"⟩) (by decide +kernel)) (X.1.2.2.2.2 _ (by decide +kernel)) (by decide +kernel) ⟨Nat.le_of_ble_eq_true rfl, Nat.le_of_ble_eq_true rfl⟩, X.1.2.2.2.2 _ (by decide +kernel), trivial⟩ rfl rfl (Nat.le_of_ble_eq_true rfl) (fun r97 u97 hp97 => ?_)
        replace hp97 := hp97.symm; subst hp97
        refine z_aload_n (pc' := 101) X dX4_find_100 rfl 0 rfl rfl ?_
        refine z_get (pc' := 104) (C := RX4) (ref := "PivotBeats$PivotRow") (T := TX4) (N := 10) (v := .int (jI (u70 28 0))) X dX4_find_101 rfl hin4 5 rfl rfl 2 (by decide) (by decide +kernel) rfl rfl ?_
        refine z_iconst (pc' := 105) X dX4_find_104 rfl ?_
        refine z_callPNI (pc' := 108) (S := Unit) (As := [.int (jI (u70 28 0)), .int (jI 3)]) (rest := [.int (jI (tin 3 (u70 29 0))), .int (jI ((tin 2 (u70 29 0)) - (tin 2 (u70 28 0)))), .ref (q 40), .ref (q 40)]) X dX4_find_105 rfl (kX5_countOfFactor l D E (u70 28 0) 3  (by rw [p28]; omega)) ⟨va_cnB 2 X.1.2.2.2.2 gX4_find_X5_countOfFactor_n54 rfl rfl rfl (X.2.2.2.1.2.2.2 ("PivotBeats$PivotRow", 54, ⟨"PivotBeats", "countOfFactor", "(II)I"⟩) (by decide +kernel)) (X.1.2.2.2.2 _ (by decide +kernel)) (by decide +kernel) ⟨Nat.le_of_ble_eq_true rfl, Nat.le_of_ble_eq_true rfl⟩, X.1.2.2.2.2 _ (by decide +kernel), trivial⟩ rfl rfl (Nat.le_of_ble_eq_true rfl) (fun r105 u105 hp105 => ?_)
        replace hp105 := hp105.symm; subst hp105
        refine z_isub (pc' := 109) X dX4_find_108 rfl ?_
        refine z_callVI (pc' := 112) (S := St) (As := [.int (jI ((tin 2 (u70 29 0)) - (tin 2 (u70 28 0)))), .int (jI ((tin 3 (u70 29 0)) - (tin 3 (u70 28 0))))]) (rest := [.ref (q 40)]) X dX4_find_109 rfl (kX4_placeOf l D E q u70 ((tin 2 (u70 29 0)) - (tin 2 (u70 28 0))) ((tin 3 (u70 29 0)) - (tin 3 (u70 28 0))) fp (ly70) (by rw [q28, p28]; omega)) (cwV 2 X.1.2.2.2.2 gX4_find_X4_placeOf rfl rfl rfl (by decide +kernel) ⟨Nat.le_of_ble_eq_true rfl, Nat.le_of_ble_eq_true rfl⟩) 5 rfl rfl rfl rfl (Nat.le_of_ble_eq_true rfl) (fun r109 u109 hp109 => ?_)
        obtain ⟨rfl, hp109⟩ := hp109
        have pl109 : PLC u70 fp (tin 2 fq - tin 2 fp) (tin 3 fq - tin 3 fp) r109 := by rw [q28, p28] at hp109; exact hp109
        refine z_callVV (pc' := 115) (S := St) (As := [.int (jI r109)]) (rest := []) X dX4_find_112 rfl (kX4_measureFrom l D E q u70 r109 fp fs (tin 2 fq - tin 2 fp) (tin 3 fq - tin 3 fp) (ly70) (st70) (tgi) (fiF pl109 tgi)) (cwV 1 X.1.2.2.2.2 gX4_find_X4_measureFrom rfl rfl rfl (by decide +kernel) ⟨Nat.le_of_ble_eq_true rfl, Nat.le_of_ble_eq_true rfl⟩) 5 rfl rfl rfl rfl (Nat.le_of_ble_eq_true rfl) (fun u112 hp112 => ?_)
        obtain ⟨hn112, hd112⟩ := hp112
        refine z_aload_n (pc' := 116) X dX4_find_115 rfl 0 rfl rfl ?_
        refine z_iconst (pc' := 117) X dX4_find_116 rfl ?_
        refine z_iconst (pc' := 118) X dX4_find_117 rfl ?_
        refine z_callVI (pc' := 121) (S := St) (As := [.int (jI 0), .int (jI 0)]) (rest := []) X dX4_find_118 rfl (kX4_placeOf l D E q u112 0 0 fp (LYm hn112 ly70) (by omega)) (cwV 2 X.1.2.2.2.2 gX4_find_X4_placeOf rfl rfl rfl (by decide +kernel) ⟨Nat.le_of_ble_eq_true rfl, Nat.le_of_ble_eq_true rfl⟩) 5 rfl rfl rfl rfl (Nat.le_of_ble_eq_true rfl) (fun r118 u118 hp118 => ?_)
        obtain ⟨rfl, hp118⟩ := hp118
        have nr := PLC_r hp118
        have f26 : u112 26 0 = -9 := by rw [hn112 26 (by decide) (by decide), hn70 26 (by decide), hn66 26 (by decide) (by decide)]; rfl
        refine z_istore (pc' := 123) (lv' := [(4, .int (jI r118)), (0, .ref (q 40)), (1, .int (jI fp)), (2, .int (jI fq)), (3, .int (jI fs))]) X dX4_find_121 rfl (by decide) rfl ?_
        refine z_iload (pc' := 125) X dX4_find_123 rfl 0 rfl ?_
        refine z_bipush (pc' := 127) X dX4_find_125 rfl rfl ?_
        refine z_icmp_eq (tgt := 157) (pc' := 130) X dX4_find_127 (by decide) rfl (by omega) (fun h127 => ?_) (fun h127 => ?_)
        · exact z_vret (post := (fun (uu : St) => (∀ F, F < 26 → uu F = σ F) ∧ uu 28 0 = fp ∧ uu 29 0 = fq ∧ uu 30 0 = fs ∧ PR uu)) X dX4_find_157 hret u112 (by first | exact fnX1 hn66 hn70 hn112 p28 q28 s28 f26 hr tg hd112 hp118 h127 | exact fnX2 hn66 hn70 hn112 p28 q28 s28 f26 hr tg hd112 pn h139 | exact fnX3 hn66 hn70 hn112 hn154 p28 q28 s28 tg dg1 dg2 dg3 hr154)
        · have pn := PLC_n hp118 h127
          have dr := DST_rng hd112 pn.2.1
          refine z_aload_n (pc' := 131) X dX4_find_130 rfl 1 rfl rfl ?_
          refine z_get (pc' := 134) (C := RX4) (ref := "PivotBeats$PivotRow") (T := TX4) (N := 10) (v := .ref (q 34)) X dX4_find_131 rfl hin4 5 rfl rfl 8 (by decide) (by decide +kernel) rfl rfl ?_
          refine z_iload (pc' := 136) X dX4_find_134 rfl 0 rfl ?_
          refine z_iald (pc' := 137) (f := u112 34) (n := 105) X dX4_find_136 rfl 28 rfl (by decide) (by omega) ?_
          refine z_bipush (pc' := 139) X dX4_find_137 rfl rfl ?_
          refine z_icmp_eq (tgt := 157) (pc' := 142) X dX4_find_139 (by decide) rfl (by omega) (fun h139 => ?_) (fun h139 => ?_)
          · exact z_vret (post := (fun (uu : St) => (∀ F, F < 26 → uu F = σ F) ∧ uu 28 0 = fp ∧ uu 29 0 = fq ∧ uu 30 0 = fs ∧ PR uu)) X dX4_find_157 hret u112 (by first | exact fnX1 hn66 hn70 hn112 p28 q28 s28 f26 hr tg hd112 hp118 h127 | exact fnX2 hn66 hn70 hn112 p28 q28 s28 f26 hr tg hd112 pn h139 | exact fnX3 hn66 hn70 hn112 hn154 p28 q28 s28 tg dg1 dg2 dg3 hr154)
          · obtain ⟨dg, dg1, dg3, dg2⟩ := fiD hd112 pn h139
            have ly112 : LY (up u112 26 0 (u112 34 r118)) fp := show LY u112 fp from LYm hn112 ly70
            have ds112 : DST (up u112 26 0 (u112 34 r118)) fp fs (tin 2 fq - tin 2 fp) (tin 3 fq - tin 3 fp) := hd112
            have fs112 : (up u112 26 0 (u112 34 r118)) 30 0 = fs := by show u112 30 0 = fs; rw [hn112 30 (by decide) (by decide)]; exact s28
            refine z_aload_n (pc' := 143) X dX4_find_142 rfl 1 rfl rfl ?_
            refine z_aload_n (pc' := 144) X dX4_find_143 rfl 1 rfl rfl ?_
            refine z_get (pc' := 147) (C := RX4) (ref := "PivotBeats$PivotRow") (T := TX4) (N := 10) (v := .ref (q 34)) X dX4_find_144 rfl hin4 5 rfl rfl 8 (by decide) (by decide +kernel) rfl rfl ?_
            refine z_iload (pc' := 149) X dX4_find_147 rfl 0 rfl ?_
            refine z_iald (pc' := 150) (f := u112 34) (n := 105) X dX4_find_149 rfl 28 rfl (by decide) (by omega) ?_
            refine z_put (pc' := 153) (C := RX4) (ref := "PivotBeats$PivotRow") (T := TX4) (N := 10) (ty := .int) (w' := CW E q (up u112 26 0 (u112 34 r118))) X dX4_find_150 rfl hin4 tyX4 tyX4_ok nmX4 5 rfl rfl 0 (by decide) (by decide +kernel) rfl rfl (by decide +kernel) rfl rfl (Nat.le_of_ble_eq_true rfl) rfl ?_
            refine z_aload_n (pc' := 154) X dX4_find_153 rfl 1 rfl rfl ?_
            refine z_callVV (pc' := 157) (S := St) (As := []) (rest := []) X dX4_find_154 rfl (kX4_readRow l D E q (up u112 26 0 (u112 34 r118))  fp fs (tin 2 fq - tin 2 fp) (tin 3 fq - tin 3 fp) dg (ly112) (ds112) (⟨fs112, hr.2.2⟩) (tgi) (⟨dg1, dg2, dg3⟩)) (cwV 0 X.1.2.2.2.2 gX4_find_X4_readRow rfl rfl rfl (by decide +kernel) ⟨Nat.le_of_ble_eq_true rfl, Nat.le_of_ble_eq_true rfl⟩) 5 rfl rfl rfl rfl (Nat.le_of_ble_eq_true rfl) (fun u154 hp154 => ?_)
            obtain ⟨hn154, hr154⟩ := hp154
            exact z_vret (post := (fun (uu : St) => (∀ F, F < 26 → uu F = σ F) ∧ uu 28 0 = fp ∧ uu 29 0 = fq ∧ uu 30 0 = fs ∧ PR uu)) X dX4_find_157 hret u154 (by first | exact fnX1 hn66 hn70 hn112 p28 q28 s28 f26 hr tg hd112 hp118 h127 | exact fnX2 hn66 hn70 hn112 p28 q28 s28 f26 hr tg hd112 pn h139 | exact fnX3 hn66 hn70 hn112 hn154 p28 q28 s28 tg dg1 dg2 dg3 hr154)
      · exact z_vret (post := (fun (uu : St) => (∀ F, F < 26 → uu F = σ F) ∧ uu 28 0 = fp ∧ uu 29 0 = fq ∧ uu 30 0 = fs ∧ PR uu)) X dX4_find_64 hret (up (up (up (up σ 28 0 fp) 29 0 fq) 30 0 fs) 26 0 (-9)) (⟨fnA, rfl, rfl, rfl, Or.inl ⟨rfl, fun X Y z => absurd (TG_rs hr.1 hr.2.1 z) h60⟩⟩)
    · refine z_aload_n (pc' := 17) X dX4_find_16 rfl 0 rfl rfl ?_
      refine z_get (pc' := 20) (C := RX4) (ref := "PivotBeats$PivotRow") (T := TX4) (N := 10) (v := .int (jI (σ 30 0))) X dX4_find_17 rfl hin4 5 rfl rfl 4 (by decide) (by decide +kernel) rfl rfl ?_
      refine z_iload_n (pc' := 21) X dX4_find_20 rfl 3 rfl rfl ?_
      refine z_icmp_ne (tgt := 25) (pc' := 24) X dX4_find_21 (by decide) rfl (by (have := PIv_q hpi (by omega); omega)) (fun h21 => ?_) (fun h21 => ?_)
      · refine z_aload_n (pc' := 26) X dX4_find_25 rfl 0 rfl rfl ?_
        refine z_iload_n (pc' := 27) X dX4_find_26 rfl 1 rfl rfl ?_
        refine z_put (pc' := 30) (C := RX4) (ref := "PivotBeats$PivotRow") (T := TX4) (N := 10) (ty := .int) (w' := CW E q (up σ 28 0 fp)) X dX4_find_27 rfl hin4 tyX4 tyX4_ok nmX4 5 rfl rfl 2 (by decide) (by decide +kernel) rfl rfl (by decide +kernel) rfl rfl (Nat.le_of_ble_eq_true rfl) rfl ?_
        refine z_aload_n (pc' := 31) X dX4_find_30 rfl 0 rfl rfl ?_
        refine z_iload_n (pc' := 32) X dX4_find_31 rfl 2 rfl rfl ?_
        refine z_put (pc' := 35) (C := RX4) (ref := "PivotBeats$PivotRow") (T := TX4) (N := 10) (ty := .int) (w' := CW E q (up (up σ 28 0 fp) 29 0 fq)) X dX4_find_32 rfl hin4 tyX4 tyX4_ok nmX4 5 rfl rfl 3 (by decide) (by decide +kernel) rfl rfl (by decide +kernel) rfl rfl (Nat.le_of_ble_eq_true rfl) rfl ?_
        refine z_aload_n (pc' := 36) X dX4_find_35 rfl 0 rfl rfl ?_
        refine z_iload_n (pc' := 37) X dX4_find_36 rfl 3 rfl rfl ?_
        refine z_put (pc' := 40) (C := RX4) (ref := "PivotBeats$PivotRow") (T := TX4) (N := 10) (ty := .int) (w' := CW E q (up (up (up σ 28 0 fp) 29 0 fq) 30 0 fs)) X dX4_find_37 rfl hin4 tyX4 tyX4_ok nmX4 5 rfl rfl 4 (by decide) (by decide +kernel) rfl rfl (by decide +kernel) rfl rfl (Nat.le_of_ble_eq_true rfl) rfl ?_
        refine z_aload_n (pc' := 41) X dX4_find_40 rfl 0 rfl rfl ?_
        refine z_bipush (pc' := 43) X dX4_find_41 rfl rfl ?_
        refine z_put (pc' := 46) (C := RX4) (ref := "PivotBeats$PivotRow") (T := TX4) (N := 10) (ty := .int) (w' := CW E q (up (up (up (up σ 28 0 fp) 29 0 fq) 30 0 fs) 26 0 (-9))) X dX4_find_43 rfl hin4 tyX4 tyX4_ok nmX4 5 rfl rfl 0 (by decide) (by decide +kernel) rfl rfl (by decide +kernel) rfl rfl (Nat.le_of_ble_eq_true rfl) rfl ?_
        refine z_aload_n (pc' := 47) X dX4_find_46 rfl 0 rfl rfl ?_
        refine z_get (pc' := 50) (C := RX4) (ref := "PivotBeats$PivotRow") (T := TX4) (N := 10) (v := .int (jI fp)) X dX4_find_47 rfl hin4 5 rfl rfl 2 (by decide) (by decide +kernel) rfl rfl ?_
        refine z_callPNL (pc' := 53) (S := Unit) (As := [.int (jI fp)]) (rest := []) X dX4_find_50 rfl (kX5_restOf l D E fp  (by omega)) ⟨va_cnB 1 X.1.2.2.2.2 gX4_find_X5_restOf_n44 rfl rfl rfl (X.2.2.2.1.2.2.2 ("PivotBeats$PivotRow", 44, ⟨"PivotBeats", "restOf", "(I)J"⟩) (by decide +kernel)) (X.1.2.2.2.2 _ (by decide +kernel)) (by decide +kernel) ⟨Nat.le_of_ble_eq_true rfl, Nat.le_of_ble_eq_true rfl⟩, X.1.2.2.2.2 _ (by decide +kernel), trivial⟩ rfl rfl (Nat.le_of_ble_eq_true rfl) (fun r50 u50 hp50 => ?_)
        replace hp50 := hp50.symm; subst hp50
        refine z_aload_n (pc' := 54) X dX4_find_53 rfl 0 rfl rfl ?_
        refine z_get (pc' := 57) (C := RX4) (ref := "PivotBeats$PivotRow") (T := TX4) (N := 10) (v := .int (jI fq)) X dX4_find_54 rfl hin4 5 rfl rfl 3 (by decide) (by decide +kernel) rfl rfl ?_
        refine z_callPNL (pc' := 60) (S := Unit) (As := [.int (jI fq)]) (rest := [.long (jL (rsF fp))]) X dX4_find_57 rfl (kX5_restOf l D E fq  (by omega)) ⟨va_cnB 1 X.1.2.2.2.2 gX4_find_X5_restOf_n44 rfl rfl rfl (X.2.2.2.1.2.2.2 ("PivotBeats$PivotRow", 44, ⟨"PivotBeats", "restOf", "(I)J"⟩) (by decide +kernel)) (X.1.2.2.2.2 _ (by decide +kernel)) (by decide +kernel) ⟨Nat.le_of_ble_eq_true rfl, Nat.le_of_ble_eq_true rfl⟩, X.1.2.2.2.2 _ (by decide +kernel), trivial⟩ rfl rfl (Nat.le_of_ble_eq_true rfl) (fun r57 u57 hp57 => ?_)
        replace hp57 := hp57.symm; subst hp57
        refine z_lcmp_eq (tgt := 65) (pc' := 64) X dX4_find_60 (pc1 := 61) rfl dX4_find_61 (by decide) rfl (by omega) (fun h60 => ?_) (fun h60 => ?_)
        · refine z_aload_n (pc' := 66) X dX4_find_65 rfl 0 rfl rfl ?_
          refine z_callVV (pc' := 69) (S := St) (As := []) (rest := []) X dX4_find_66 rfl (kX4_layOutPlaces l D E q (up (up (up (up σ 28 0 fp) 29 0 fq) 30 0 fs) 26 0 (-9))   (hr.1)) (cwV 0 X.1.2.2.2.2 gX4_find_X4_layOutPlaces rfl rfl rfl (by decide +kernel) ⟨Nat.le_of_ble_eq_true rfl, Nat.le_of_ble_eq_true rfl⟩) 5 rfl rfl rfl rfl (Nat.le_of_ble_eq_true rfl) (fun u66 hp66 => ?_)
          obtain ⟨hn66, hl66⟩ := hp66
          refine z_aload_n (pc' := 70) X dX4_find_69 rfl 0 rfl rfl ?_
          refine z_callVV (pc' := 73) (S := St) (As := []) (rest := []) X dX4_find_70 rfl (kX4_collectSteps l D E q u66   (by rw [hn66 30 (by decide) (by decide)]; exact hr.2.2)) (cwV 0 X.1.2.2.2.2 gX4_find_X4_collectSteps rfl rfl rfl (by decide +kernel) ⟨Nat.le_of_ble_eq_true rfl, Nat.le_of_ble_eq_true rfl⟩) 5 rfl rfl rfl rfl (Nat.le_of_ble_eq_true rfl) (fun u70 hp70 => ?_)
          obtain ⟨hn70, hs70⟩ := hp70
          have p28 : u70 28 0 = fp := by rw [hn70 28 (by decide), hn66 28 (by decide) (by decide)]; rfl
          have q28 : u70 29 0 = fq := by rw [hn70 29 (by decide), hn66 29 (by decide) (by decide)]; rfl
          have s28 : u70 30 0 = fs := by rw [hn70 30 (by decide), hn66 30 (by decide) (by decide)]; rfl
          have ly70 : LY u70 fp := LYk hn70 hl66
          have st70 : STb u70 fs 400 := by have := hs70; rw [hn66 30 (by decide) (by decide)] at this; exact this
          have tg := TG_of hr.1 hr.2.1 h60
          have tgi := (TG_rng hr.1 hr.2.1 tg).2.2
          refine z_aload_n (pc' := 74) X dX4_find_73 rfl 0 rfl rfl ?_
          refine z_aload_n (pc' := 75) X dX4_find_74 rfl 0 rfl rfl ?_
          refine z_aload_n (pc' := 76) X dX4_find_75 rfl 0 rfl rfl ?_
          refine z_get (pc' := 79) (C := RX4) (ref := "PivotBeats$PivotRow") (T := TX4) (N := 10) (v := .int (jI (u70 29 0))) X dX4_find_76 rfl hin4 5 rfl rfl 3 (by decide) (by decide +kernel) rfl rfl ?_
          refine z_iconst (pc' := 80) X dX4_find_79 rfl ?_
          refine z_callPNI (pc' := 83) (S := Unit) (As := [.int (jI (u70 29 0)), .int (jI 2)]) (rest := [.ref (q 40), .ref (q 40)]) X dX4_find_80 rfl (kX5_countOfFactor l D E (u70 29 0) 2  (by rw [q28]; omega)) ⟨va_cnB 2 X.1.2.2.2.2 gX4_find_X5_countOfFactor_n54 rfl rfl rfl (X.2.2.2.1.2.2.2 ("PivotBeats$PivotRow", 54, ⟨"PivotBeats", "countOfFactor", "(II)I"⟩) (by decide +kernel)) (X.1.2.2.2.2 _ (by decide +kernel)) (by decide +kernel) ⟨Nat.le_of_ble_eq_true rfl, Nat.le_of_ble_eq_true rfl⟩, X.1.2.2.2.2 _ (by decide +kernel), trivial⟩ rfl rfl (Nat.le_of_ble_eq_true rfl) (fun r80 u80 hp80 => ?_)
          replace hp80 := hp80.symm; subst hp80
          refine z_aload_n (pc' := 84) X dX4_find_83 rfl 0 rfl rfl ?_
          refine z_get (pc' := 87) (C := RX4) (ref := "PivotBeats$PivotRow") (T := TX4) (N := 10) (v := .int (jI (u70 28 0))) X dX4_find_84 rfl hin4 5 rfl rfl 2 (by decide) (by decide +kernel) rfl rfl ?_
          refine z_iconst (pc' := 88) X dX4_find_87 rfl ?_
          refine z_callPNI (pc' := 91) (S := Unit) (As := [.int (jI (u70 28 0)), .int (jI 2)]) (rest := [.int (jI (tin 2 (u70 29 0))), .ref (q 40), .ref (q 40)]) X dX4_find_88 rfl (kX5_countOfFactor l D E (u70 28 0) 2  (by rw [p28]; omega)) ⟨va_cnB 2 X.1.2.2.2.2 gX4_find_X5_countOfFactor_n54 rfl rfl rfl (X.2.2.2.1.2.2.2 ("PivotBeats$PivotRow", 54, ⟨"PivotBeats", "countOfFactor", "(II)I"⟩) (by decide +kernel)) (X.1.2.2.2.2 _ (by decide +kernel)) (by decide +kernel) ⟨Nat.le_of_ble_eq_true rfl, Nat.le_of_ble_eq_true rfl⟩, X.1.2.2.2.2 _ (by decide +kernel), trivial⟩ rfl rfl (Nat.le_of_ble_eq_true rfl) (fun r88 u88 hp88 => ?_)
          replace hp88 := hp88.symm; subst hp88
          refine z_isub (pc' := 92) X dX4_find_91 rfl ?_
          refine z_aload_n (pc' := 93) X dX4_find_92 rfl 0 rfl rfl ?_
          refine z_get (pc' := 96) (C := RX4) (ref := "PivotBeats$PivotRow") (T := TX4) (N := 10) (v := .int (jI (u70 29 0))) X dX4_find_93 rfl hin4 5 rfl rfl 3 (by decide) (by decide +kernel) rfl rfl ?_
          refine z_iconst (pc' := 97) X dX4_find_96 rfl ?_
          refine z_callPNI (pc' := 100) (S := Unit) (As := [.int (jI (u70 29 0)), .int (jI 3)]) (rest := [.int (jI ((tin 2 (u70 29 0)) - (tin 2 (u70 28 0)))), .ref (q 40), .ref (q 40)]) X dX4_find_97 rfl (kX5_countOfFactor l D E (u70 29 0) 3  (by rw [q28]; omega)) ⟨va_cnB 2 X.1.2.2.2.2 gX4_find_X5_countOfFactor_n54 rfl rfl rfl (X.2.2.2.1.2.2.2 ("PivotBeats$PivotRow", 54, ⟨"PivotBeats", "countOfFactor", "(II)I"⟩) (by decide +kernel)) (X.1.2.2.2.2 _ (by decide +kernel)) (by decide +kernel) ⟨Nat.le_of_ble_eq_true rfl, Nat.le_of_ble_eq_true rfl⟩, X.1.2.2.2.2 _ (by decide +kernel), trivial⟩ rfl rfl (Nat.le_of_ble_eq_true rfl) (fun r97 u97 hp97 => ?_)
          replace hp97 := hp97.symm; subst hp97
          refine z_aload_n (pc' := 101) X dX4_find_100 rfl 0 rfl rfl ?_
          refine z_get (pc' := 104) (C := RX4) (ref := "PivotBeats$PivotRow") (T := TX4) (N := 10) (v := .int (jI (u70 28 0))) X dX4_find_101 rfl hin4 5 rfl rfl 2 (by decide) (by decide +kernel) rfl rfl ?_
          refine z_iconst (pc' := 105) X dX4_find_104 rfl ?_
          refine z_callPNI (pc' := 108) (S := Unit) (As := [.int (jI (u70 28 0)), .int (jI 3)]) (rest := [.int (jI (tin 3 (u70 29 0))), .int (jI ((tin 2 (u70 29 0)) - (tin 2 (u70 28 0)))), .ref (q 40), .ref (q 40)]) X dX4_find_105 rfl (kX5_countOfFactor l D E (u70 28 0) 3  (by rw [p28]; omega)) ⟨va_cnB 2 X.1.2.2.2.2 gX4_find_X5_countOfFactor_n54 rfl rfl rfl (X.2.2.2.1.2.2.2 ("PivotBeats$PivotRow", 54, ⟨"PivotBeats", "countOfFactor", "(II)I"⟩) (by decide +kernel)) (X.1.2.2.2.2 _ (by decide +kernel)) (by decide +kernel) ⟨Nat.le_of_ble_eq_true rfl, Nat.le_of_ble_eq_true rfl⟩, X.1.2.2.2.2 _ (by decide +kernel), trivial⟩ rfl rfl (Nat.le_of_ble_eq_true rfl) (fun r105 u105 hp105 => ?_)
          replace hp105 := hp105.symm; subst hp105
          refine z_isub (pc' := 109) X dX4_find_108 rfl ?_
          refine z_callVI (pc' := 112) (S := St) (As := [.int (jI ((tin 2 (u70 29 0)) - (tin 2 (u70 28 0)))), .int (jI ((tin 3 (u70 29 0)) - (tin 3 (u70 28 0))))]) (rest := [.ref (q 40)]) X dX4_find_109 rfl (kX4_placeOf l D E q u70 ((tin 2 (u70 29 0)) - (tin 2 (u70 28 0))) ((tin 3 (u70 29 0)) - (tin 3 (u70 28 0))) fp (ly70) (by rw [q28, p28]; omega)) (cwV 2 X.1.2.2.2.2 gX4_find_X4_placeOf rfl rfl rfl (by decide +kernel) ⟨Nat.le_of_ble_eq_true rfl, Nat.le_of_ble_eq_true rfl⟩) 5 rfl rfl rfl rfl (Nat.le_of_ble_eq_true rfl) (fun r109 u109 hp109 => ?_)
          obtain ⟨rfl, hp109⟩ := hp109
          have pl109 : PLC u70 fp (tin 2 fq - tin 2 fp) (tin 3 fq - tin 3 fp) r109 := by rw [q28, p28] at hp109; exact hp109
          refine z_callVV (pc' := 115) (S := St) (As := [.int (jI r109)]) (rest := []) X dX4_find_112 rfl (kX4_measureFrom l D E q u70 r109 fp fs (tin 2 fq - tin 2 fp) (tin 3 fq - tin 3 fp) (ly70) (st70) (tgi) (fiF pl109 tgi)) (cwV 1 X.1.2.2.2.2 gX4_find_X4_measureFrom rfl rfl rfl (by decide +kernel) ⟨Nat.le_of_ble_eq_true rfl, Nat.le_of_ble_eq_true rfl⟩) 5 rfl rfl rfl rfl (Nat.le_of_ble_eq_true rfl) (fun u112 hp112 => ?_)
          obtain ⟨hn112, hd112⟩ := hp112
          refine z_aload_n (pc' := 116) X dX4_find_115 rfl 0 rfl rfl ?_
          refine z_iconst (pc' := 117) X dX4_find_116 rfl ?_
          refine z_iconst (pc' := 118) X dX4_find_117 rfl ?_
          refine z_callVI (pc' := 121) (S := St) (As := [.int (jI 0), .int (jI 0)]) (rest := []) X dX4_find_118 rfl (kX4_placeOf l D E q u112 0 0 fp (LYm hn112 ly70) (by omega)) (cwV 2 X.1.2.2.2.2 gX4_find_X4_placeOf rfl rfl rfl (by decide +kernel) ⟨Nat.le_of_ble_eq_true rfl, Nat.le_of_ble_eq_true rfl⟩) 5 rfl rfl rfl rfl (Nat.le_of_ble_eq_true rfl) (fun r118 u118 hp118 => ?_)
          obtain ⟨rfl, hp118⟩ := hp118
          have nr := PLC_r hp118
          have f26 : u112 26 0 = -9 := by rw [hn112 26 (by decide) (by decide), hn70 26 (by decide), hn66 26 (by decide) (by decide)]; rfl
          refine z_istore (pc' := 123) (lv' := [(4, .int (jI r118)), (0, .ref (q 40)), (1, .int (jI fp)), (2, .int (jI fq)), (3, .int (jI fs))]) X dX4_find_121 rfl (by decide) rfl ?_
          refine z_iload (pc' := 125) X dX4_find_123 rfl 0 rfl ?_
          refine z_bipush (pc' := 127) X dX4_find_125 rfl rfl ?_
          refine z_icmp_eq (tgt := 157) (pc' := 130) X dX4_find_127 (by decide) rfl (by omega) (fun h127 => ?_) (fun h127 => ?_)
          · exact z_vret (post := (fun (uu : St) => (∀ F, F < 26 → uu F = σ F) ∧ uu 28 0 = fp ∧ uu 29 0 = fq ∧ uu 30 0 = fs ∧ PR uu)) X dX4_find_157 hret u112 (by first | exact fnX1 hn66 hn70 hn112 p28 q28 s28 f26 hr tg hd112 hp118 h127 | exact fnX2 hn66 hn70 hn112 p28 q28 s28 f26 hr tg hd112 pn h139 | exact fnX3 hn66 hn70 hn112 hn154 p28 q28 s28 tg dg1 dg2 dg3 hr154)
          · have pn := PLC_n hp118 h127
            have dr := DST_rng hd112 pn.2.1
            refine z_aload_n (pc' := 131) X dX4_find_130 rfl 1 rfl rfl ?_
            refine z_get (pc' := 134) (C := RX4) (ref := "PivotBeats$PivotRow") (T := TX4) (N := 10) (v := .ref (q 34)) X dX4_find_131 rfl hin4 5 rfl rfl 8 (by decide) (by decide +kernel) rfl rfl ?_
            refine z_iload (pc' := 136) X dX4_find_134 rfl 0 rfl ?_
            refine z_iald (pc' := 137) (f := u112 34) (n := 105) X dX4_find_136 rfl 28 rfl (by decide) (by omega) ?_
            refine z_bipush (pc' := 139) X dX4_find_137 rfl rfl ?_
            refine z_icmp_eq (tgt := 157) (pc' := 142) X dX4_find_139 (by decide) rfl (by omega) (fun h139 => ?_) (fun h139 => ?_)
            · exact z_vret (post := (fun (uu : St) => (∀ F, F < 26 → uu F = σ F) ∧ uu 28 0 = fp ∧ uu 29 0 = fq ∧ uu 30 0 = fs ∧ PR uu)) X dX4_find_157 hret u112 (by first | exact fnX1 hn66 hn70 hn112 p28 q28 s28 f26 hr tg hd112 hp118 h127 | exact fnX2 hn66 hn70 hn112 p28 q28 s28 f26 hr tg hd112 pn h139 | exact fnX3 hn66 hn70 hn112 hn154 p28 q28 s28 tg dg1 dg2 dg3 hr154)
            · obtain ⟨dg, dg1, dg3, dg2⟩ := fiD hd112 pn h139
              have ly112 : LY (up u112 26 0 (u112 34 r118)) fp := show LY u112 fp from LYm hn112 ly70
              have ds112 : DST (up u112 26 0 (u112 34 r118)) fp fs (tin 2 fq - tin 2 fp) (tin 3 fq - tin 3 fp) := hd112
              have fs112 : (up u112 26 0 (u112 34 r118)) 30 0 = fs := by show u112 30 0 = fs; rw [hn112 30 (by decide) (by decide)]; exact s28
              refine z_aload_n (pc' := 143) X dX4_find_142 rfl 1 rfl rfl ?_
              refine z_aload_n (pc' := 144) X dX4_find_143 rfl 1 rfl rfl ?_
              refine z_get (pc' := 147) (C := RX4) (ref := "PivotBeats$PivotRow") (T := TX4) (N := 10) (v := .ref (q 34)) X dX4_find_144 rfl hin4 5 rfl rfl 8 (by decide) (by decide +kernel) rfl rfl ?_
              refine z_iload (pc' := 149) X dX4_find_147 rfl 0 rfl ?_
              refine z_iald (pc' := 150) (f := u112 34) (n := 105) X dX4_find_149 rfl 28 rfl (by decide) (by omega) ?_
              refine z_put (pc' := 153) (C := RX4) (ref := "PivotBeats$PivotRow") (T := TX4) (N := 10) (ty := .int) (w' := CW E q (up u112 26 0 (u112 34 r118))) X dX4_find_150 rfl hin4 tyX4 tyX4_ok nmX4 5 rfl rfl 0 (by decide) (by decide +kernel) rfl rfl (by decide +kernel) rfl rfl (Nat.le_of_ble_eq_true rfl) rfl ?_
              refine z_aload_n (pc' := 154) X dX4_find_153 rfl 1 rfl rfl ?_
              refine z_callVV (pc' := 157) (S := St) (As := []) (rest := []) X dX4_find_154 rfl (kX4_readRow l D E q (up u112 26 0 (u112 34 r118))  fp fs (tin 2 fq - tin 2 fp) (tin 3 fq - tin 3 fp) dg (ly112) (ds112) (⟨fs112, hr.2.2⟩) (tgi) (⟨dg1, dg2, dg3⟩)) (cwV 0 X.1.2.2.2.2 gX4_find_X4_readRow rfl rfl rfl (by decide +kernel) ⟨Nat.le_of_ble_eq_true rfl, Nat.le_of_ble_eq_true rfl⟩) 5 rfl rfl rfl rfl (Nat.le_of_ble_eq_true rfl) (fun u154 hp154 => ?_)
              obtain ⟨hn154, hr154⟩ := hp154
              exact z_vret (post := (fun (uu : St) => (∀ F, F < 26 → uu F = σ F) ∧ uu 28 0 = fp ∧ uu 29 0 = fq ∧ uu 30 0 = fs ∧ PR uu)) X dX4_find_157 hret u154 (by first | exact fnX1 hn66 hn70 hn112 p28 q28 s28 f26 hr tg hd112 hp118 h127 | exact fnX2 hn66 hn70 hn112 p28 q28 s28 f26 hr tg hd112 pn h139 | exact fnX3 hn66 hn70 hn112 hn154 p28 q28 s28 tg dg1 dg2 dg3 hr154)
        · exact z_vret (post := (fun (uu : St) => (∀ F, F < 26 → uu F = σ F) ∧ uu 28 0 = fp ∧ uu 29 0 = fq ∧ uu 30 0 = fs ∧ PR uu)) X dX4_find_64 hret (up (up (up (up σ 28 0 fp) 29 0 fq) 30 0 fs) 26 0 (-9)) (⟨fnA, rfl, rfl, rfl, Or.inl ⟨rfl, fun X Y z => absurd (TG_rs hr.1 hr.2.1 z) h60⟩⟩)
      · exact z_vret (post := (fun (uu : St) => (∀ F, F < 26 → uu F = σ F) ∧ uu 28 0 = fp ∧ uu 29 0 = fq ∧ uu 30 0 = fs ∧ PR uu)) X dX4_find_24 hret σ (⟨fun _ _ => rfl, by omega, by omega, by omega, PIv_r hpi (by omega)⟩)
set_option maxHeartbeats 4000000 in
set_option maxRecDepth 100000 in
theorem kX5_pivots (l : Launch) (D : va_G) (E : Nat → Nat) (q : Nat → Nat) (σ : St) (pp qq ss k : Int) (hr : (-2147483648 ≤ pp ∧ pp < 2147483648) ∧ (-2147483648 ≤ qq ∧ qq < 2147483648) ∧ (-2147483648 ≤ ss ∧ ss < 2147483648) ∧ (-2147483648 ≤ k ∧ k < 2147483648)) (hpi : PIv σ) : CtI l D E yX5_pivots wsX5_pivots ({ frames := 4, cells := 0, slots := 0, locals := 98 } : Room) [.ref (q 0), .int (jI pp), .int (jI qq), .int (jI ss), .int (jI k)] (CW E q σ) (CW E q) (fun (rv : Int) (uu : St) => (fPivots pp qq ss k rv ∧ (∀ F, F < 26 → uu F = σ F) ∧ PIv uu)) := by
  refine mk_I (cc := cX5_pivots) (maxL := 5) (ret := some .int) (by decide) rfl (Nat.le_of_ble_eq_true rfl) ?_
  intro p e s m args below meth c A X hret
  have hin5 : ∀ x ∈ u_ws RX5 TX5 6, x ∈ wsX5_pivots := fun _ h => List.mem_cons_of_mem _ (List.mem_append_left _ (List.mem_append_right _ h))
  have hin4 : ∀ x ∈ u_ws RX4 TX4 10, x ∈ wsX5_pivots := fun _ h => List.mem_cons_of_mem _ (List.mem_append_right _ h)
  refine z_lv (lv' := [(0, .ref (q 0)), (1, .int (jI pp)), (2, .int (jI qq)), (3, .int (jI ss)), (4, .int (jI k))]) [0, 1, 2, 3, 4] rfl ?_
  refine z_iload_n (pc' := 1) X dX5_pivots_0 rfl 1 rfl rfl ?_
  refine z_callPI (pc' := 4) (S := Unit) (As := [.int (jI pp)]) (rest := []) X dX5_pivots_1 rfl (kX5_isWholeTempo l D E pp  (by omega)) (va_cwS 1 X.1.2.2.2.2 gX5_pivots_X5_isWholeTempo rfl rfl rfl (by decide +kernel) ⟨Nat.le_of_ble_eq_true rfl, Nat.le_of_ble_eq_true rfl⟩) rfl rfl (Nat.le_of_ble_eq_true rfl) (fun r1 u1 hp1 => ?_)
  skip
  rcases hp1 with ⟨rfl, hp1⟩ | ⟨rfl, hp1⟩
  · refine z_if_eq (tgt := 24) (pc' := 7) X dX5_pivots_4 (by decide) rfl (by omega) (fun h => absurd h (by decide)) (fun _ => ?_)
    refine z_iload_n (pc' := 8) X dX5_pivots_7 rfl 2 rfl rfl ?_
    refine z_callPI (pc' := 11) (S := Unit) (As := [.int (jI qq)]) (rest := []) X dX5_pivots_8 rfl (kX5_isWholeTempo l D E qq  (by omega)) (va_cwS 1 X.1.2.2.2.2 gX5_pivots_X5_isWholeTempo rfl rfl rfl (by decide +kernel) ⟨Nat.le_of_ble_eq_true rfl, Nat.le_of_ble_eq_true rfl⟩) rfl rfl (Nat.le_of_ble_eq_true rfl) (fun r8 u8 hp8 => ?_)
    skip
    rcases hp8 with ⟨rfl, hp8⟩ | ⟨rfl, hp8⟩
    · refine z_if_eq (tgt := 24) (pc' := 14) X dX5_pivots_11 (by decide) rfl (by omega) (fun h => absurd h (by decide)) (fun _ => ?_)
      refine z_iload_n (pc' := 15) X dX5_pivots_14 rfl 3 rfl rfl ?_
      refine z_if_lt (tgt := 24) (pc' := 18) X dX5_pivots_15 (by decide) rfl (by omega) (fun h15 => ?_) (fun h15 => ?_)
      · refine z_bipush (pc' := 26) X dX5_pivots_24 rfl rfl ?_
        exact z_iret (post := (fun (rv : Int) (uu : St) => (fPivots pp qq ss k rv ∧ (∀ F, F < 26 → uu F = σ F) ∧ PIv uu))) X dX5_pivots_26 hret σ (⟨Or.inl ⟨by omega, rfl⟩, fun _ _ => rfl, hpi⟩)
      · refine z_iload_n (pc' := 19) X dX5_pivots_18 rfl 3 rfl rfl ?_
        refine z_ldc (pc' := 21) (x := 1048575) X dX5_pivots_19 rfl (by decide +kernel) rfl ?_
        refine z_icmp_le (tgt := 27) (pc' := 24) X dX5_pivots_21 (by decide) rfl (by omega) (fun h21 => ?_) (fun h21 => ?_)
        · refine z_iload (pc' := 29) X dX5_pivots_27 rfl 4 rfl ?_
          refine z_iconst (pc' := 30) X dX5_pivots_29 rfl ?_
          refine z_icmp_lt (tgt := 39) (pc' := 33) X dX5_pivots_30 (by decide) rfl (by omega) (fun h30 => ?_) (fun h30 => ?_)
          · refine z_bipush (pc' := 41) X dX5_pivots_39 rfl rfl ?_
            exact z_iret (post := (fun (rv : Int) (uu : St) => (fPivots pp qq ss k rv ∧ (∀ F, F < 26 → uu F = σ F) ∧ PIv uu))) X dX5_pivots_41 hret σ (⟨Or.inl ⟨by omega, rfl⟩, fun _ _ => rfl, hpi⟩)
          · refine z_iload (pc' := 35) X dX5_pivots_33 rfl 4 rfl ?_
            refine z_iconst (pc' := 36) X dX5_pivots_35 rfl ?_
            refine z_icmp_lt (tgt := 42) (pc' := 39) X dX5_pivots_36 (by decide) rfl (by omega) (fun h36 => ?_) (fun h36 => ?_)
            · refine z_aload_n (pc' := 43) X dX5_pivots_42 rfl 0 rfl rfl ?_
              refine z_get (pc' := 46) (C := RX5) (ref := "PivotBeats") (T := TX5) (N := 6) (v := .ref (q 40)) X dX5_pivots_43 rfl hin5 0 rfl rfl 4 (by decide) (by decide +kernel) rfl rfl ?_
              refine z_iload_n (pc' := 47) X dX5_pivots_46 rfl 1 rfl rfl ?_
              refine z_iload_n (pc' := 48) X dX5_pivots_47 rfl 2 rfl rfl ?_
              refine z_iload_n (pc' := 49) X dX5_pivots_48 rfl 3 rfl rfl ?_
              refine z_callVV (pc' := 52) (S := St) (As := [.int (jI pp), .int (jI qq), .int (jI ss)]) (rest := []) X dX5_pivots_49 rfl (kX4_find l D E q σ pp qq ss  (by omega) (hpi)) (cwV 3 X.1.2.2.2.2 gX5_pivots_X4_find rfl rfl rfl (by decide +kernel) ⟨Nat.le_of_ble_eq_true rfl, Nat.le_of_ble_eq_true rfl⟩) 5 rfl rfl rfl rfl (Nat.le_of_ble_eq_true rfl) (fun u49 hp49 => ?_)
              obtain ⟨hn49, hp49, hq49, hs49, hr49⟩ := hp49
              have rr := PR_rng hr49
              have hcs := fnR hr49 hp49 hq49 hs49 (k := k)
              refine z_iload (pc' := 54) X dX5_pivots_52 rfl 4 rfl ?_
              refine z_iconst (pc' := 55) X dX5_pivots_54 rfl ?_
              refine z_icmp_ne (tgt := 66) (pc' := 58) X dX5_pivots_55 (by decide) rfl (by omega) (fun h55 => ?_) (fun h55 => ?_)
              · refine z_iload (pc' := 68) X dX5_pivots_66 rfl 4 rfl ?_
                refine z_aload_n (pc' := 69) X dX5_pivots_68 rfl 0 rfl rfl ?_
                refine z_get (pc' := 72) (C := RX5) (ref := "PivotBeats") (T := TX5) (N := 6) (v := .ref (q 40)) X dX5_pivots_69 rfl hin5 0 rfl rfl 4 (by decide) (by decide +kernel) rfl rfl ?_
                refine z_get (pc' := 75) (C := RX4) (ref := "PivotBeats$PivotRow") (T := TX4) (N := 10) (v := .int (jI (u49 26 0))) X dX5_pivots_72 rfl hin4 5 rfl rfl 0 (by decide) (by decide +kernel) rfl rfl ?_
                refine z_icmp_ge (tgt := 91) (pc' := 78) X dX5_pivots_75 (by decide) rfl (by omega) (fun h75 => ?_) (fun h75 => ?_)
                · refine z_bipush (pc' := 93) X dX5_pivots_91 rfl rfl ?_
                  exact z_iret (post := (fun (rv : Int) (uu : St) => (fPivots pp qq ss k rv ∧ (∀ F, F < 26 → uu F = σ F) ∧ PIv uu))) X dX5_pivots_93 hret u49 (by first | exact ⟨hcs.2.1 (by omega) (by omega) (by omega), hn49, fnI (by omega) hp49 hq49 hs49 hr49⟩ | exact ⟨hcs.2.2 (by omega) (by omega), hn49, fnI (by omega) hp49 hq49 hs49 hr49⟩)
                · refine z_aload_n (pc' := 79) X dX5_pivots_78 rfl 0 rfl rfl ?_
                  refine z_get (pc' := 82) (C := RX5) (ref := "PivotBeats") (T := TX5) (N := 6) (v := .ref (q 40)) X dX5_pivots_79 rfl hin5 0 rfl rfl 4 (by decide) (by decide +kernel) rfl rfl ?_
                  refine z_get (pc' := 85) (C := RX4) (ref := "PivotBeats$PivotRow") (T := TX4) (N := 10) (v := .ref (q 27)) X dX5_pivots_82 rfl hin4 5 rfl rfl 1 (by decide) (by decide +kernel) rfl rfl ?_
                  refine z_iload (pc' := 87) X dX5_pivots_85 rfl 4 rfl ?_
                  refine z_iald (pc' := 88) (f := u49 27) (n := 5) X dX5_pivots_87 rfl 24 rfl (by decide) (by omega) ?_
                  refine z_goto (tgt := 93) X dX5_pivots_88 (by decide) ?_
                  exact z_iret (post := (fun (rv : Int) (uu : St) => (fPivots pp qq ss k rv ∧ (∀ F, F < 26 → uu F = σ F) ∧ PIv uu))) X dX5_pivots_93 hret u49 (by first | exact ⟨hcs.2.1 (by omega) (by omega) (by omega), hn49, fnI (by omega) hp49 hq49 hs49 hr49⟩ | exact ⟨hcs.2.2 (by omega) (by omega), hn49, fnI (by omega) hp49 hq49 hs49 hr49⟩)
              · refine z_aload_n (pc' := 59) X dX5_pivots_58 rfl 0 rfl rfl ?_
                refine z_get (pc' := 62) (C := RX5) (ref := "PivotBeats") (T := TX5) (N := 6) (v := .ref (q 40)) X dX5_pivots_59 rfl hin5 0 rfl rfl 4 (by decide) (by decide +kernel) rfl rfl ?_
                refine z_get (pc' := 65) (C := RX4) (ref := "PivotBeats$PivotRow") (T := TX4) (N := 10) (v := .int (jI (u49 26 0))) X dX5_pivots_62 rfl hin4 5 rfl rfl 0 (by decide) (by decide +kernel) rfl rfl ?_
                exact z_iret (post := (fun (rv : Int) (uu : St) => (fPivots pp qq ss k rv ∧ (∀ F, F < 26 → uu F = σ F) ∧ PIv uu))) X dX5_pivots_65 hret u49 (⟨hcs.1 (by omega) (by omega), hn49, fnI (by omega) hp49 hq49 hs49 hr49⟩)
            · refine z_bipush (pc' := 41) X dX5_pivots_39 rfl rfl ?_
              exact z_iret (post := (fun (rv : Int) (uu : St) => (fPivots pp qq ss k rv ∧ (∀ F, F < 26 → uu F = σ F) ∧ PIv uu))) X dX5_pivots_41 hret σ (⟨Or.inl ⟨by omega, rfl⟩, fun _ _ => rfl, hpi⟩)
        · refine z_bipush (pc' := 26) X dX5_pivots_24 rfl rfl ?_
          exact z_iret (post := (fun (rv : Int) (uu : St) => (fPivots pp qq ss k rv ∧ (∀ F, F < 26 → uu F = σ F) ∧ PIv uu))) X dX5_pivots_26 hret σ (⟨Or.inl ⟨by omega, rfl⟩, fun _ _ => rfl, hpi⟩)
    · refine z_if_eq (tgt := 24) (pc' := 14) X dX5_pivots_11 (by decide) rfl (by omega) (fun _ => ?_) (fun h => absurd h (by decide))
      refine z_bipush (pc' := 26) X dX5_pivots_24 rfl rfl ?_
      exact z_iret (post := (fun (rv : Int) (uu : St) => (fPivots pp qq ss k rv ∧ (∀ F, F < 26 → uu F = σ F) ∧ PIv uu))) X dX5_pivots_26 hret σ (⟨Or.inl ⟨by omega, rfl⟩, fun _ _ => rfl, hpi⟩)
  · refine z_if_eq (tgt := 24) (pc' := 7) X dX5_pivots_4 (by decide) rfl (by omega) (fun _ => ?_) (fun h => absurd h (by decide))
    refine z_bipush (pc' := 26) X dX5_pivots_24 rfl rfl ?_
    exact z_iret (post := (fun (rv : Int) (uu : St) => (fPivots pp qq ss k rv ∧ (∀ F, F < 26 → uu F = σ F) ∧ PIv uu))) X dX5_pivots_26 hret σ (⟨Or.inl ⟨by omega, rfl⟩, fun _ _ => rfl, hpi⟩)
