/-! ===== the class's state ===== -/
def WfC (τ : St) : Prop := Wf (τ 1 0) (τ 2) (τ 3) (τ 0 0) (τ 4 0) (τ 5) (τ 6) (τ 7) (τ 8) (τ 9) (τ 16 0) (τ 15)
theorem WfC.n {σ : St} (h : WfC σ) : (0 ≤ σ 1 0 ∧ σ 1 0 ≤ 7) ∧ (20 ≤ σ 0 0 ∧ σ 0 0 ≤ 400) ∧ (0 ≤ σ 4 0 ∧ σ 4 0 ≤ 12) ∧ (0 ≤ σ 16 0 ∧ σ 16 0 ≤ 16) := ⟨h.1, h.2.2.2.1, h.2.2.2.2.1, h.2.2.2.2.2.2.1⟩
theorem WfC.tie {σ : St} (h : WfC σ) {k : Int} (h0 : 0 ≤ k) (h1 : k < σ 4 0) : (0 ≤ σ 5 k ∧ σ 5 k < σ 1 0) ∧ (0 ≤ σ 6 k ∧ σ 6 k < 20) ∧ (0 ≤ σ 7 k ∧ σ 7 k < σ 1 0) ∧ (0 ≤ σ 8 k ∧ σ 8 k < 20) ∧ (0 ≤ σ 9 k ∧ σ 9 k ≤ 9) ∧ σ 5 k ≠ σ 7 k := h.2.2.2.2.2.1 k h0 h1
theorem WfC.tok {σ : St} (h : WfC σ) : tOk (σ 5) (σ 6) (σ 7) (σ 8) (σ 4 0).toNat := by
  intro k hk
  have n0 := h.n
  have t := h.tie (k := (k : Int)) (by omega) (by omega)
  omega
theorem WfC.mk {σ : St} (h : WfC σ) {k : Int} (h0 : 0 ≤ k) (h1 : k < σ 16 0) : 20 ≤ σ 15 k ∧ σ 15 k ≤ 400 := h.2.2.2.2.2.2.2.1 k h0 h1
/-- the same in what was told -/
def eqC (u σ : St) : Prop := ∀ F, (F < 10 ∨ F = 15 ∨ F = 16) → u F = σ F
theorem eqC.rf (σ : St) : eqC σ σ := fun _ _ => rfl
theorem eqC.tr {u v σ : St} (h1 : eqC u v) (h2 : eqC v σ) : eqC u σ := fun F hF => (h1 F hF).trans (h2 F hF)
theorem eqC.wf {u σ : St} (h : eqC u σ) (hw : WfC σ) : WfC u := by
  unfold WfC
  rw [h 0 (by decide), h 1 (by decide), h 2 (by decide), h 3 (by decide), h 4 (by decide), h 5 (by decide), h 6 (by decide), h 7 (by decide), h 8 (by decide), h 9 (by decide), h 15 (by decide), h 16 (by decide)]
  exact hw
def JQ (a v b w : Int → Int) (u : St) (n : Nat) (s : Int) : Prop := u 10 s = jS a v b w n 0 s ∧ u 11 s = jS a v b w n 1 s ∧ u 12 s = jS a v b w n 2 s ∧ u 13 s = jS a v b w n 3 s
/-- what the class keeps of the TIES -/
def JI (u : St) : Prop := (0 < u 1 0 → ∀ s, 0 ≤ s → s < 7 → JQ (u 5) (u 6) (u 7) (u 8) u (u 4 0).toNat s) ∧ ∀ k, 0 ≤ k → k < u 4 0 → u 14 k = jK (u 5) (u 6) (u 7) (u 8) k.toNat
/-- numbers as twos, threes and a rest -/
def rsF (n : Int) : Int := n / pU (tin 2 n) (tin 3 n)
theorem tin_all {n : Int} (h : 20 ≤ n ∧ n ≤ 400) : (0 ≤ tin 2 n ∧ tin 2 n ≤ 8) ∧ (0 ≤ tin 3 n ∧ tin 3 n ≤ 5) ∧ n = rsF n * pU (tin 2 n) (tin 3 n) ∧ (1 ≤ rsF n ∧ rsF n ≤ 400) ∧ Nat.gcd (rsF n).toNat 6 = 1 := by
  obtain ⟨m, rfl⟩ : ∃ m : Nat, n = m := ⟨n.toNat, by omega⟩
  have key : ∀ m : Fin 381, (0 ≤ tin 2 ((m.val + 20 : Nat) : Int) ∧ tin 2 ((m.val + 20 : Nat) : Int) ≤ 8) ∧ (0 ≤ tin 3 ((m.val + 20 : Nat) : Int) ∧ tin 3 ((m.val + 20 : Nat) : Int) ≤ 5) ∧ ((m.val + 20 : Nat) : Int) = rsF ((m.val + 20 : Nat) : Int) * pU (tin 2 ((m.val + 20 : Nat) : Int)) (tin 3 ((m.val + 20 : Nat) : Int)) ∧ (1 ≤ rsF ((m.val + 20 : Nat) : Int) ∧ rsF ((m.val + 20 : Nat) : Int) ≤ 400) ∧ Nat.gcd (rsF ((m.val + 20 : Nat) : Int)).toNat 6 = 1 := by
    decide +kernel
  have := key ⟨m - 20, by omega⟩
  dsimp only at this
  rw [show m - 20 + 20 = m by omega] at this
  exact this
theorem rs_cop {n : Int} (h : 20 ≤ n ∧ n ≤ 400) (X Y : Int) : Nat.Coprime (rsF n * pU X Y).toNat (pU (-X) (-Y)).toNat := by
  obtain ⟨-, -, -, h4, h5⟩ := tin_all h
  obtain ⟨r, hr⟩ : ∃ r : Nat, rsF n = r := ⟨(rsF n).toNat, by omega⟩
  rw [hr] at h5
  rw [hr, pU_N, pU_N, ← Int.natCast_mul, Int.toNat_natCast, Int.toNat_natCast]
  refine Nat.Coprime.mul_left ?_ (pN_cop X Y)
  have c2 : Nat.Coprime r 2 := Nat.Coprime.coprime_dvd_right (⟨3, rfl⟩ : 2 ∣ 6) h5
  have c3 : Nat.Coprime r 3 := Nat.Coprime.coprime_dvd_right (⟨2, rfl⟩ : 3 ∣ 6) h5
  exact Nat.Coprime.mul_right (Nat.Coprime.pow_right _ c2) (Nat.Coprime.pow_right _ c3)
theorem pU_add {X Y i j : Int} (hi : 0 ≤ i) (hj : 0 ≤ j) : pU i j * pU X Y * pU (-(X + i)) (-(Y + j)) = pU (-X) (-Y) * pU (X + i) (Y + j) := by
  unfold pU
  have e2 : i.toNat + X.toNat + (-(X + i)).toNat = (-X).toNat + (X + i).toNat := by omega
  have e3 : j.toNat + Y.toNat + (-(Y + j)).toNat = (-Y).toNat + (Y + j).toNat := by omega
  have l : (2 : Int) ^ i.toNat * 3 ^ j.toNat * (2 ^ X.toNat * 3 ^ Y.toNat) * (2 ^ (-(X + i)).toNat * 3 ^ (-(Y + j)).toNat) = 2 ^ (i.toNat + X.toNat + (-(X + i)).toNat) * 3 ^ (j.toNat + Y.toNat + (-(Y + j)).toNat) := by
    simp only [Int.pow_add]; ac_rfl
  have r : (2 : Int) ^ (-X).toNat * 3 ^ (-Y).toNat * (2 ^ (X + i).toNat * 3 ^ (Y + j).toNat) = 2 ^ ((-X).toNat + (X + i).toNat) * 3 ^ ((-Y).toNat + (Y + j).toNat) := by
    simp only [Int.pow_add]; ac_rfl
  rw [l, r, e2, e3]
/-- a TEMPO in least terms: a rest, twos and threes -/
theorem tp_red {n X Y : Int} (h : 20 ≤ n ∧ n ≤ 400) : (n * pU X Y) / gcdI (n * pU X Y) (pU (-X) (-Y)) = rsF n * pU (X + tin 2 n) (Y + tin 3 n) ∧ pU (-X) (-Y) / gcdI (n * pU X Y) (pU (-X) (-Y)) = pU (-(X + tin 2 n)) (-(Y + tin 3 n)) ∧ n * pU X Y = rsF n * pU (X + tin 2 n) (Y + tin 3 n) * gcdI (n * pU X Y) (pU (-X) (-Y)) ∧ pU (-X) (-Y) = pU (-(X + tin 2 n)) (-(Y + tin 3 n)) * gcdI (n * pU X Y) (pU (-X) (-Y)) := by
  obtain ⟨h1, h2, h3, h4, h5⟩ := tin_all h
  have p1 := pU_pos X Y
  have p2 := pU_pos (-X) (-Y)
  have p3 := pU_pos (X + tin 2 n) (Y + tin 3 n)
  have p4 := pU_pos (-(X + tin 2 n)) (-(Y + tin 3 n))
  refine red_I (Int.mul_nonneg (by omega) (by omega)) (Int.mul_pos (by omega) (by omega)) (by omega) (by omega) (rs_cop h _ _) ?_
  have e := pU_add (X := X) (Y := Y) (i := tin 2 n) (j := tin 3 n) h1.1 h2.1
  calc n * pU X Y * pU (-(X + tin 2 n)) (-(Y + tin 3 n)) = rsF n * pU (tin 2 n) (tin 3 n) * pU X Y * pU (-(X + tin 2 n)) (-(Y + tin 3 n)) := by rw [← h3]
    _ = rsF n * (pU (tin 2 n) (tin 3 n) * pU X Y * pU (-(X + tin 2 n)) (-(Y + tin 3 n))) := by ac_rfl
    _ = rsF n * (pU (-X) (-Y) * pU (X + tin 2 n) (Y + tin 3 n)) := by rw [e]
    _ = pU (-X) (-Y) * (rsF n * pU (X + tin 2 n) (Y + tin 3 n)) := by ac_rfl
theorem jS_far {a v b w : Int → Int} {N : Nat} {nS : Int} (h : tOk a v b w N) (hS : ∀ k : Nat, k < N → a k < nS ∧ b k < nS) : ∀ n : Nat, n ≤ N → ∀ o : Int, nS ≤ o → jS a v b w n 0 o = o := by
  intro n
  induction n with
  | zero => intro _ o _; exact (jS_z o).1
  | succ n ih =>
    intro hn o ho
    have i := ih (by omega) o ho
    have t := h n (by omega)
    have t2 := hS n (by omega)
    have la := jS_le h n (by omega) (a n) t.1
    have lb := jS_le h n (by omega) (b n) t.2.1
    by_cases hk : jS a v b w n 0 (a n) = jS a v b w n 0 (b n)
    · rw [jS_same hk]; exact i
    · rw [jS_k0 hk, i, if_neg (by omega), if_neg (by omega)]
theorem sz_sm {f : Int → Int} {c nS : Int} (h : 0 ≤ nS ∧ nS ≤ 7) (hf : ∀ o, nS ≤ o → o < 7 → ¬ f o = c) : smI (fun o => if f o = c then 1 else 0) nS.toNat = sz7 f c := by
  have z : ∀ o, nS ≤ o → o < 7 → (if f o = c then (1 : Int) else 0) = 0 := fun o h1 h2 => if_neg (hf o h1 h2)
  unfold sz7
  rcases (show nS = 0 ∨ nS = 1 ∨ nS = 2 ∨ nS = 3 ∨ nS = 4 ∨ nS = 5 ∨ nS = 6 ∨ nS = 7 by omega) with q | q | q | q | q | q | q | q <;> subst q
  · rw [z 0 (by omega) (by omega), z 1 (by omega) (by omega), z 2 (by omega) (by omega), z 3 (by omega) (by omega), z 4 (by omega) (by omega), z 5 (by omega) (by omega), z 6 (by omega) (by omega)]; simp [smI]
  · rw [z 1 (by omega) (by omega), z 2 (by omega) (by omega), z 3 (by omega) (by omega), z 4 (by omega) (by omega), z 5 (by omega) (by omega), z 6 (by omega) (by omega)]; simp [smI]
  · rw [z 2 (by omega) (by omega), z 3 (by omega) (by omega), z 4 (by omega) (by omega), z 5 (by omega) (by omega), z 6 (by omega) (by omega)]; simp [smI]
  · rw [z 3 (by omega) (by omega), z 4 (by omega) (by omega), z 5 (by omega) (by omega), z 6 (by omega) (by omega)]; simp [smI]
  · rw [z 4 (by omega) (by omega), z 5 (by omega) (by omega), z 6 (by omega) (by omega)]; simp [smI]
  · rw [z 5 (by omega) (by omega), z 6 (by omega) (by omega)]; simp [smI]
  · rw [z 6 (by omega) (by omega)]; simp [smI]
  · simp [smI]
/-- every tie that is kept leaves the routes short -/
theorem JQ.rng {σ : St} {n : Nat} {s : Int} {u : St} (hw : WfC σ) (hn : n ≤ (σ 4 0).toNat) (hs : 0 ≤ s ∧ s < 7) (h : JQ (σ 5) (σ 6) (σ 7) (σ 8) u n s) : (0 ≤ u 10 s ∧ u 10 s ≤ s) ∧ (0 ≤ u 13 s ∧ u 13 s < 4096) ∧ (-2000000 ≤ u 11 s ∧ u 11 s ≤ 2000000) ∧ (-2000000 ≤ u 12 s ∧ u 12 s ≤ 2000000) := by
  obtain ⟨h0, h1, h2, h3⟩ := h
  have n0 := hw.n
  rw [h0, h1, h2, h3]
  have r := jS_rt (a := σ 5) (v := σ 6) (b := σ 7) (w := σ 8) n s
  have p : (2 : Int) ^ n ≤ 2 ^ 12 := (pow_le2 (show n ≤ 12 by omega)).2
  have e := jS_abs12 hw.tok hn (by omega) hs
  exact ⟨jS_le hw.tok n hn s hs, ⟨r.1, by omega⟩, e.1, e.2⟩
theorem keep_step {a v b w : Int → Int} {u1 u2 : St} {n : Nat} {x : Int} (h : ∀ s, 0 ≤ s → s < 7 → (s < x → JQ a v b w u1 (n + 1) s) ∧ (x ≤ s → JQ a v b w u1 n s)) (hu : ∀ i, i ≠ x → u2 10 i = u1 10 i ∧ u2 11 i = u1 11 i ∧ u2 12 i = u1 12 i ∧ u2 13 i = u1 13 i) (hx : JQ a v b w u2 (n + 1) x) : ∀ s, 0 ≤ s → s < 7 → (s < x + 1 → JQ a v b w u2 (n + 1) s) ∧ (x + 1 ≤ s → JQ a v b w u2 n s) := by
  intro s s0 s1
  have g := h s s0 s1
  refine ⟨fun q => ?_, fun q => ?_⟩
  · by_cases e : s = x
    · rw [e]; exact hx
    · obtain ⟨e0, e1, e2, e3⟩ := hu s e
      obtain ⟨f0, f1, f2, f3⟩ := g.1 (by omega)
      exact ⟨e0.trans f0, e1.trans f1, e2.trans f2, e3.trans f3⟩
  · obtain ⟨e0, e1, e2, e3⟩ := hu s (by omega)
    obtain ⟨f0, f1, f2, f3⟩ := g.2 (by omega)
    exact ⟨e0.trans f0, e1.trans f1, e2.trans f2, e3.trans f3⟩
theorem keep_hb {u1 : St} {x A B R T : Int} (i : Int) (hi : i ≠ x) : (up (up (up (up u1 11 x A) 12 x B) 13 x R) 10 x T) 10 i = u1 10 i ∧ (up (up (up (up u1 11 x A) 12 x B) 13 x R) 10 x T) 11 i = u1 11 i ∧ (up (up (up (up u1 11 x A) 12 x B) 13 x R) 10 x T) 12 i = u1 12 i ∧ (up (up (up (up u1 11 x A) 12 x B) 13 x R) 10 x T) 13 i = u1 13 i := by
  refine ⟨?_, ?_, ?_, ?_⟩ <;> simp [up, hi]
theorem keep_hx {a v b w : Int → Int} {u1 : St} {n : Nat} {x A B R T : Int} (h0 : T = jS a v b w (n + 1) 0 x) (h1 : A = jS a v b w (n + 1) 1 x) (h2 : B = jS a v b w (n + 1) 2 x) (h3 : R = jS a v b w (n + 1) 3 x) : JQ a v b w (up (up (up (up u1 11 x A) 12 x B) 13 x R) 10 x T) (n + 1) x := by
  refine ⟨?_, ?_, ?_, ?_⟩
  · rw [up_s]; exact h0
  · simp [up]; exact h1
  · simp [up]; exact h2
  · simp [up]; exact h3
section KEEP
variable {a v b w : Int → Int} {σ u1 : St} {n : Nat} {k x : Int}
theorem keep_A (hk : (n : Int) = k) (hJa : JQ a v b w σ n (a k)) (hJb : JQ a v b w σ n (b k)) (hJx : JQ a v b w u1 n x) (hne : ¬ σ 10 (a k) = σ 10 (b k)) (hb : u1 10 x = σ 10 (b k)) : JQ a v b w (up (up (up (up u1 11 x (u1 11 x + (σ 11 (a k) + (tw (w k) - tw (v k)) - σ 11 (b k)))) 12 x (u1 12 x + (σ 12 (a k) + (th (w k) - th (v k)) - σ 12 (b k)))) 13 x (iXor (u1 13 x) (iXor (iXor (σ 13 (a k)) (σ 13 (b k))) (iShl 1 k)))) 10 x (min (σ 10 (a k)) (σ 10 (b k)))) (n + 1) x := by
  obtain ⟨a0, a1, a2, a3⟩ := hJa
  obtain ⟨b0, b1, b2, b3⟩ := hJb
  obtain ⟨x0, x1, x2, x3⟩ := hJx
  subst hk
  rw [a0, b0] at hne
  rw [x0, b0] at hb
  refine keep_hx ?_ ?_ ?_ ?_
  · rw [jS_k0 hne, if_pos hb, a0, b0]
  · rw [jS_k1 hne, if_pos hb, a1, b1, x1]
  · rw [jS_k2 hne, if_pos hb, a2, b2, x2]
  · rw [jS_k3 hne, if_pos hb, a3, b3, x3, iShl_1]
theorem keep_B (hk : (n : Int) = k) (hJa : JQ a v b w σ n (a k)) (hJb : JQ a v b w σ n (b k)) (hJx : JQ a v b w u1 n x) (hne : ¬ σ 10 (a k) = σ 10 (b k)) (hb : ¬ u1 10 x = σ 10 (b k)) (ha : u1 10 x = σ 10 (a k)) : JQ a v b w (up u1 10 x (min (σ 10 (a k)) (σ 10 (b k)))) (n + 1) x := by
  obtain ⟨a0, a1, a2, a3⟩ := hJa
  obtain ⟨b0, b1, b2, b3⟩ := hJb
  obtain ⟨x0, x1, x2, x3⟩ := hJx
  subst hk
  rw [a0, b0] at hne
  rw [x0, b0] at hb
  rw [x0, a0] at ha
  refine ⟨?_, ?_, ?_, ?_⟩
  · rw [up_s, jS_k0 hne, if_neg hb, if_pos ha, a0, b0]
  · show u1 11 x = _; rw [jS_k1 hne, if_neg hb, x1]
  · show u1 12 x = _; rw [jS_k2 hne, if_neg hb, x2]
  · show u1 13 x = _; rw [jS_k3 hne, if_neg hb, x3]
theorem keep_C (hk : (n : Int) = k) (hJa : JQ a v b w σ n (a k)) (hJb : JQ a v b w σ n (b k)) (hJx : JQ a v b w u1 n x) (hne : ¬ σ 10 (a k) = σ 10 (b k)) (hb : ¬ u1 10 x = σ 10 (b k)) (ha : ¬ u1 10 x = σ 10 (a k)) : JQ a v b w u1 (n + 1) x := by
  obtain ⟨a0, a1, a2, a3⟩ := hJa
  obtain ⟨b0, b1, b2, b3⟩ := hJb
  obtain ⟨x0, x1, x2, x3⟩ := hJx
  subst hk
  rw [a0, b0] at hne
  rw [x0, b0] at hb
  rw [x0, a0] at ha
  refine ⟨?_, ?_, ?_, ?_⟩
  · rw [jS_k0 hne, if_neg hb, if_neg ha, x0]
  · rw [jS_k1 hne, if_neg hb, x1]
  · rw [jS_k2 hne, if_neg hb, x2]
  · rw [jS_k3 hne, if_neg hb, x3]
end KEEP
