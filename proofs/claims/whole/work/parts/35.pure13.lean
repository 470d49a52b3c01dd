/-! ===== what the class reads off ===== -/
theorem JI.g {σ : St} {s : Int} (hw : WfC σ) (hj : JI σ) (hs : 0 ≤ s ∧ s < 7 ∧ 0 < σ 1 0) : σ 10 s = jS (σ 5) (σ 6) (σ 7) (σ 8) (σ 4 0).toNat 0 s ∧ σ 11 s = jS (σ 5) (σ 6) (σ 7) (σ 8) (σ 4 0).toNat 1 s ∧ σ 12 s = jS (σ 5) (σ 6) (σ 7) (σ 8) (σ 4 0).toNat 2 s ∧ σ 13 s = jS (σ 5) (σ 6) (σ 7) (σ 8) (σ 4 0).toNat 3 s ∧ (0 ≤ σ 10 s ∧ σ 10 s ≤ s) ∧ (0 ≤ σ 13 s ∧ σ 13 s < 4096) ∧ (-2000000 ≤ σ 11 s ∧ σ 11 s ≤ 2000000) ∧ (-2000000 ≤ σ 12 s ∧ σ 12 s ≤ 2000000) := by
  have q := hj.1 hs.2.2 s hs.1 hs.2.1
  have r := q.rng hw (Nat.le_refl _) ⟨hs.1, hs.2.1⟩
  obtain ⟨q0, q1, q2, q3⟩ := q
  exact ⟨q0, q1, q2, q3, r⟩
theorem JI.k {σ : St} {k : Int} (hj : JI σ) (hk : 0 ≤ k ∧ k < σ 4 0) : σ 14 k = jK (σ 5) (σ 6) (σ 7) (σ 8) k.toNat ∧ (0 ≤ σ 14 k ∧ σ 14 k ≤ 2) := by
  have q := hj.2 k hk.1 hk.2
  have r := jK_rng (a := σ 5) (v := σ 6) (b := σ 7) (w := σ 8) k.toNat
  exact ⟨q, by omega⟩
theorem JI.same {u σ : St} (h : ∀ F, F = 1 ∨ (3 < F ∧ F < 9) ∨ (9 < F ∧ F < 15) → u F = σ F) (hj : JI σ) : JI u := by
  unfold JI JQ
  rw [h 1 (by omega), h 4 (by omega), h 5 (by omega), h 6 (by omega), h 7 (by omega), h 8 (by omega), h 10 (by omega), h 11 (by omega), h 12 (by omega), h 13 (by omega), h 14 (by omega)]
  exact hj
section RD
variable (st nT : Int) (a v b w : Int → Int)
def rU (s : Int) : Int := rsF st * pU (eX nT a v b w 0 s + tin 2 st) (eY nT a v b w 0 s + tin 3 st)
def rL (s : Int) : Int := pU (-(eX nT a v b w 0 s + tin 2 st)) (-(eY nT a v b w 0 s + tin 3 st))
variable {st nT a v b w}
theorem r_red {s : Int} (h : 20 ≤ st ∧ st ≤ 400) : tU st nT a v b w s / gcdI (tU st nT a v b w s) (tL nT a v b w s) = rU st nT a v b w s ∧ tL nT a v b w s / gcdI (tU st nT a v b w s) (tL nT a v b w s) = rL st nT a v b w s ∧ tU st nT a v b w s = rU st nT a v b w s * gcdI (tU st nT a v b w s) (tL nT a v b w s) ∧ tL nT a v b w s = rL st nT a v b w s * gcdI (tU st nT a v b w s) (tL nT a v b w s) := tp_red h
theorem r_cop {s : Int} (h : 20 ≤ st ∧ st ≤ 400) : Nat.Coprime (rU st nT a v b w s).toNat (rL st nT a v b w s).toNat := rs_cop h _ _
theorem tUL_bd {N : Nat} {s z : Int} (hN : N = nT.toNat) (h : tOk a v b w N) (hs : 0 ≤ s ∧ s < 7) (e : jS a v b w nT.toNat 0 s = jS a v b w nT.toNat 0 0) (hz : 20 ≤ z ∧ z ≤ 400) : (1 ≤ tU z nT a v b w s ∧ tU z nT a v b w s ≤ 27487790694400) ∧ (1 ≤ tL nT a v b w s ∧ tL nT a v b w s ≤ 68719476736) := by
  subst hN
  have d := jS_bd h (Nat.le_refl _) hs (show (0 : Int) ≤ 0 ∧ (0 : Int) < 7 by omega) e
  have p1 := pU_pos (eX nT a v b w 0 s) (eY nT a v b w 0 s)
  have p2 := pU_pos (-(eX nT a v b w 0 s)) (-(eY nT a v b w 0 s))
  have b1 := pU_bd (X := eX nT a v b w 0 s) (Y := eY nT a v b w 0 s) (by unfold eX eY; omega) (by unfold eY; omega)
  have b2 := pU_bd (X := -(eX nT a v b w 0 s)) (Y := -(eY nT a v b w 0 s)) (by unfold eX eY; omega) (by unfold eY; omega)
  have m := mul_bd1 (a := z) (b := pU (eX nT a v b w 0 s) (eY nT a v b w 0 s)) (A := 400) (B := 68719476736) (by omega) (by omega)
  unfold tU tL
  omega
theorem rUL_bd {N : Nat} {s : Int} (hN : N = nT.toNat) (h : tOk a v b w N) (hs : 0 ≤ s ∧ s < 7) (e : jS a v b w nT.toNat 0 s = jS a v b w nT.toNat 0 0) (hz : 20 ≤ st ∧ st ≤ 400) : (1 ≤ rU st nT a v b w s ∧ rU st nT a v b w s ≤ 27487790694400) ∧ (1 ≤ rL st nT a v b w s ∧ rL st nT a v b w s ≤ 68719476736) := by
  have t := tUL_bd hN h hs e hz
  have r := r_red (nT := nT) (a := a) (v := v) (b := b) (w := w) (s := s) hz
  have g := red_g (u := tU st nT a v b w s) (l := tL nT a v b w s) (by omega) (by omega)
  rw [r.1, r.2.1] at g
  omega
theorem g_pos {s : Int} : 0 < gcdI (tU st nT a v b w s) (tL nT a v b w s) := gcdI_pos (by have := pU_pos (-(eX nT a v b w 0 s)) (-(eY nT a v b w 0 s)); unfold tL; omega)
/-- what a MARK is off, in least terms and not -/
theorem dM_r {mk : Int → Int} {s k : Int} (h : 20 ≤ st ∧ st ≤ 400) : dM st nT a v b w mk s k = ((rU st nT a v b w s - mk k * rL st nT a v b w s).natAbs : Int) * gcdI (tU st nT a v b w s) (tL nT a v b w s) := by
  have r := r_red (nT := nT) (a := a) (v := v) (b := b) (w := w) (s := s) h
  have g := g_pos (st := st) (nT := nT) (a := a) (v := v) (b := b) (w := w) (s := s)
  unfold dM
  obtain ⟨-, -, r3, r4⟩ := r
  generalize gcdI (tU st nT a v b w s) (tL nT a v b w s) = G at *
  have e : mk k * tL nT a v b w s - tU st nT a v b w s = -(rU st nT a v b w s - mk k * rL st nT a v b w s) * G := by
    rw [Int.neg_mul, Int.sub_mul, r3, r4, Int.mul_assoc]
    omega
  rw [e, Int.natAbs_mul, Int.natAbs_neg, Int.natCast_mul, Int.natAbs_of_nonneg (show 0 ≤ G by omega)]
theorem nr_r {mk : Int → Int} {s : Int} (h : 20 ≤ st ∧ st ≤ 400) (n : Nat) : nrI (fun k => ((rU st nT a v b w s - mk k * rL st nT a v b w s).natAbs : Int)) n = nrI (dM st nT a v b w mk s) n :=
  nrI_scale g_pos n (fun _ _ _ => dM_r h)
theorem cop_sub {U L m : Int} (hU : 0 < U) (hL : 0 < L) (h : Nat.Coprime U.toNat L.toNat) : Nat.Coprime (((U - m * L).natAbs : Int)).toNat L.toNat := by
  rw [Int.toNat_natCast]
  have d1 : ((Nat.gcd (U - m * L).natAbs L.toNat : Nat) : Int) ∣ U - m * L := Int.dvd_natAbs.mp (Int.natCast_dvd_natCast.mpr (Nat.gcd_dvd_left _ _))
  have d2 : ((Nat.gcd (U - m * L).natAbs L.toNat : Nat) : Int) ∣ L := by
    have := Int.natCast_dvd_natCast.mpr (Nat.gcd_dvd_right (U - m * L).natAbs L.toNat)
    rwa [show ((L.toNat : Nat) : Int) = L by omega] at this
  have d3 : ((Nat.gcd (U - m * L).natAbs L.toNat : Nat) : Int) ∣ U := by
    have := Int.dvd_add d1 (Int.dvd_mul_of_dvd_right d2 : _ ∣ m * L)
    rwa [show U - m * L + m * L = U by omega] at this
  have d4 : Nat.gcd (U - m * L).natAbs L.toNat ∣ U.toNat := Int.natCast_dvd_natCast.mp (by rwa [show ((U.toNat : Nat) : Int) = U by omega])
  have d5 := Nat.dvd_gcd d4 (Nat.gcd_dvd_right (U - m * L).natAbs L.toNat)
  rw [h] at d5
  exact Nat.eq_one_of_dvd_one d5
theorem aw_c {mk : Int → Int} {nS nM s wh : Int} (hst : 20 ≤ st ∧ st ≤ 400) (hs : 0 ≤ s ∧ s < nS) (hw : 0 ≤ wh ∧ wh ≤ 1) (hj : jS a v b w nT.toNat 0 s = jS a v b w nT.toNat 0 0) (h9 : ¬ nrI (dM st nT a v b w mk s) nM.toNat = -9) : fAway nS st nT a v b w nM mk s wh = if wh = 1 then rL st nT a v b w s else ((rU st nT a v b w s - mk (nrI (dM st nT a v b w mk s) nM.toNat) * rL st nT a v b w s).natAbs : Int) := by
  have r := r_red (nT := nT) (a := a) (v := v) (b := b) (w := w) (s := s) hst
  have g := g_pos (st := st) (nT := nT) (a := a) (v := v) (b := b) (w := w) (s := s)
  have pL : 1 ≤ rL st nT a v b w s := pU_pos _ _
  have pU' : 1 ≤ rU st nT a v b w s := by
    have := pU_pos (eX nT a v b w 0 s + tin 2 st) (eY nT a v b w 0 s + tin 3 st)
    have t := (tin_all hst).2.2.2.1
    have := (mul_bd1 (a := rsF st) (b := pU (eX nT a v b w 0 s + tin 2 st) (eY nT a v b w 0 s + tin 3 st)) (A := rsF st) (B := pU (eX nT a v b w 0 s + tin 2 st) (eY nT a v b w 0 s + tin 3 st)) (by omega) (by omega)).1
    exact this
  have cp := r_cop (nT := nT) (a := a) (v := v) (b := b) (w := w) (s := s) hst
  have cs := cop_sub (U := rU st nT a v b w s) (L := rL st nT a v b w s) (m := mk (nrI (dM st nT a v b w mk s) nM.toNat)) (by omega) (by omega) cp
  have e := dM_r (nT := nT) (a := a) (v := v) (b := b) (w := w) (s := s) (mk := mk) (k := nrI (dM st nT a v b w mk s) nM.toNat) hst
  have pTL : 0 < tL nT a v b w s := by have := pU_pos (-(eX nT a v b w 0 s)) (-(eY nT a v b w 0 s)); unfold tL; omega
  unfold fAway
  rw [if_pos hs, if_pos hw, if_pos hj, if_neg h9]
  by_cases z : dM st nT a v b w mk s (nrI (dM st nT a v b w mk s) nM.toNat) = 0
  · rw [if_pos z]
    rw [z] at e
    have z2 : ((rU st nT a v b w s - mk (nrI (dM st nT a v b w mk s) nM.toNat) * rL st nT a v b w s).natAbs : Int) = 0 := by
      rcases Int.mul_eq_zero.mp e.symm with q | q
      · exact q
      · omega
    rw [z2] at cs ⊢
    have l1 : (rL st nT a v b w s).toNat = 1 := by
      have : Nat.gcd 0 (rL st nT a v b w s).toNat = 1 := cs
      rwa [Nat.gcd_zero_left] at this
    by_cases q : wh = 1
    · rw [if_pos q]; omega
    · rw [if_neg q]; omega
  · rw [if_neg z]
    have z2 : 0 < ((rU st nT a v b w s - mk (nrI (dM st nT a v b w mk s) nM.toNat) * rL st nT a v b w s).natAbs : Int) := by
      by_cases q : ((rU st nT a v b w s - mk (nrI (dM st nT a v b w mk s) nM.toNat) * rL st nT a v b w s).natAbs : Int) = 0
      · rw [q, Int.zero_mul] at e; exact absurd e z
      · omega
    have ri := red_I (u := dM st nT a v b w mk s (nrI (dM st nT a v b w mk s) nM.toNat)) (l := tL nT a v b w s) (by unfold dM; omega) z2 (show 0 < rL st nT a v b w s by omega) pTL cs (by
      have r4 := r.2.2.2
      rw [e]
      conv => rhs; rw [r4]
      ac_rfl)
    by_cases q : wh = 1
    · rw [if_pos q, if_neg (by omega), ri.2.1]
    · rw [if_neg q, if_pos (by omega), ri.1]
theorem ls_mono {bt : Int → Int} {x y s : Int} (hb : 0 ≤ bt s) (hx : 20 ≤ x) (hxy : x ≤ y) : lsF bt y nT a v b w s ≤ lsF bt x nT a v b w s := by
  unfold lsF
  by_cases q : jS a v b w nT.toNat 0 s = jS a v b w nT.toNat 0 0
  · rw [if_pos q, if_pos q]
    have p := pU_pos (eX nT a v b w 0 s) (eY nT a v b w 0 s)
    have pl := pU_pos (-(eX nT a v b w 0 s)) (-(eY nT a v b w 0 s))
    have l0 : 0 ≤ bt s * 60000 * tL nT a v b w s := Int.mul_nonneg (by omega) (by unfold tL; omega)
    have l1 : tU x nT a v b w s ≤ tU y nT a v b w s := Int.mul_le_mul_of_nonneg_right hxy (by omega)
    have l2 : 0 < tU x nT a v b w s := Int.mul_pos (by omega) (by omega)
    obtain ⟨A, hA⟩ : ∃ A : Nat, bt s * 60000 * tL nT a v b w s = A := ⟨_, (Int.toNat_of_nonneg l0).symm⟩
    obtain ⟨P, hP⟩ : ∃ P : Nat, tU x nT a v b w s = P := ⟨_, (Int.toNat_of_nonneg (by omega)).symm⟩
    obtain ⟨R, hR⟩ : ∃ R : Nat, tU y nT a v b w s = R := ⟨_, (Int.toNat_of_nonneg (by omega)).symm⟩
    rw [hA, hP, hR, ← Int.natCast_ediv, ← Int.natCast_ediv]
    have := Nat.div_le_div_left (a := A) (show P ≤ R by omega) (show 0 < P by omega)
    omega
  · rw [if_neg q, if_neg q]
    omega
theorem sm_le {f g : Int → Int} : ∀ n : Nat, (∀ k : Int, 0 ≤ k → k < n → f k ≤ g k) → smI f n ≤ smI g n := by
  intro n
  induction n with
  | zero => intro _; exact Int.le_refl _
  | succ n ih =>
    intro h
    have := ih (fun k h0 h1 => h k h0 (by omega))
    have l := h n (by omega) (by omega)
    have e1 := smI_succ f (k := (n : Int)) (by omega)
    have e2 := smI_succ g (k := (n : Int)) (by omega)
    rw [show ((n : Int) + 1).toNat = n + 1 by omega, Int.toNat_natCast] at e1 e2
    omega
theorem wh_mono {bt : Int → Int} {x y nS : Int} (hn : 0 ≤ nS) (hb : ∀ s, 0 ≤ s → s < nS → 1 ≤ bt s ∧ bt s ≤ 99) (hx : 20 ≤ x) (hxy : x ≤ y) : smI (lsF bt y nT a v b w) nS.toNat ≤ smI (lsF bt x nT a v b w) nS.toNat :=
  sm_le _ (fun k k0 k1 => ls_mono (by have := hb k k0 (by omega); omega) hx hxy)
theorem pv_c {s q x : Int} (h : 20 ≤ st ∧ st ≤ 400) : (rU st nT a v b w s * tk (x % 20) = q * rL st nT a v b w s * tk (x / 20) → pvM st nT a v b w s q x = 1) ∧ (¬ rU st nT a v b w s * tk (x % 20) = q * rL st nT a v b w s * tk (x / 20) → pvM st nT a v b w s q x = 0) := by
  have r := r_red (nT := nT) (a := a) (v := v) (b := b) (w := w) (s := s) h
  have g := g_pos (st := st) (nT := nT) (a := a) (v := v) (b := b) (w := w) (s := s)
  have e1 : tU st nT a v b w s * tk (x % 20) = rU st nT a v b w s * tk (x % 20) * gcdI (tU st nT a v b w s) (tL nT a v b w s) := by
    have := r.2.2.1
    conv => lhs; rw [this]
    ac_rfl
  have e2 : q * tL nT a v b w s * tk (x / 20) = q * rL st nT a v b w s * tk (x / 20) * gcdI (tU st nT a v b w s) (tL nT a v b w s) := by
    have := r.2.2.2
    conv => lhs; rw [this]
    ac_rfl
  unfold pvM
  rw [e1, e2]
  refine ⟨fun z => if_pos (by rw [z]), fun z => if_neg (fun y => z ?_)⟩
  exact Int.eq_of_mul_eq_mul_right (by omega) y
end RD
theorem jS_00 {a v b w : Int → Int} {N : Nat} (h : tOk a v b w N) : jS a v b w N 0 0 = 0 := by
  have := jS_le h N (Nat.le_refl _) 0 (by omega)
  omega
theorem mk_mono {mk : Int → Int} {n : Int} (h : ∀ i, 0 ≤ i → i + 1 < n → mk i < mk (i + 1)) {i : Int} (hi : 0 ≤ i) : ∀ d : Nat, i + d < n → mk i ≤ mk (i + d) := by
  intro d
  induction d with
  | zero => intro _; rw [show i + ((0 : Nat) : Int) = i by omega]; exact Int.le_refl _
  | succ d ih =>
    intro hd
    have l := ih (by omega)
    have s := h (i + d) (by omega) (by omega)
    rw [show i + ((d + 1 : Nat) : Int) = i + d + 1 by omega]
    omega
theorem ins_ord {mk : Int → Int} {m n : Int} (hn : 0 ≤ n) (no : ∀ k : Int, 0 ≤ k → k < n → ¬ mk k = m) (h : ∀ i, 0 ≤ i → i + 1 < n → mk i < mk (i + 1)) : (∀ i, 0 ≤ i → i < insP mk m n.toNat → mk i < m) ∧ (∀ i, insP mk m n.toNat ≤ i → i < n → m < mk i) := by
  obtain ⟨N, rfl⟩ : ∃ N : Nat, n = N := ⟨n.toNat, by omega⟩
  rw [Int.toNat_natCast]
  induction N with
  | zero => exact ⟨fun i i0 i1 => absurd i1 (by show ¬ i < 0; omega), fun i i0 i1 => by have : (0 : Int) ≤ i := i0; omega⟩
  | succ N ih =>
    have r := insP_rng mk m N
    show (∀ i, 0 ≤ i → i < (if mk N ≤ m then ((N + 1 : Nat) : Int) else insP mk m N) → mk i < m) ∧ (∀ i, (if mk N ≤ m then ((N + 1 : Nat) : Int) else insP mk m N) ≤ i → i < ((N + 1 : Nat) : Int) → m < mk i)
    by_cases q : mk N ≤ m
    · rw [if_pos q]
      refine ⟨fun i i0 i1 => ?_, fun i i0 i1 => by omega⟩
      have l := mk_mono h i0 (N - i.toNat) (by omega)
      rw [show i + ((N - i.toNat : Nat) : Int) = N by omega] at l
      have := no i i0 i1
      omega
    · rw [if_neg q]
      obtain ⟨h1, h2⟩ := ih (by omega) (fun k k0 k1 => no k k0 (by omega)) (fun i i0 i1 => h i i0 (by omega))
      refine ⟨h1, fun i i0 i1 => ?_⟩
      by_cases e : i = N
      · rw [e]; omega
      · exact h2 i i0 (by omega)
/-- the state's well-formedness, over what a call changes -/
theorem wf_sec {σ : St} {n : Int} (h : WfC σ) (hn : 1 ≤ n ∧ n ≤ 99) (h7 : σ 1 0 < 7) : WfC (up (up (up σ 2 (σ 1 0) n) 3 (σ 1 0) (-9)) 1 0 (σ 1 0 + 1)) := by
  obtain ⟨a1, a2, a3, a4, a5, a6, a7, a8, a9⟩ := h
  refine ⟨?_, ?_, ?_, a4, a5, ?_, a7, a8, a9⟩
  · rw [up_s]; omega
  · intro s s0 s1
    rw [up_s] at s1
    show 1 ≤ up σ 2 (σ 1 0) n 2 s ∧ up σ 2 (σ 1 0) n 2 s ≤ 99
    rw [up_i]
    by_cases q : s = σ 1 0
    · rw [if_pos q]; exact hn
    · rw [if_neg q]; exact a2 s s0 (by omega)
  · intro s s0 s1
    rw [up_s] at s1
    show up (up σ 2 (σ 1 0) n) 3 (σ 1 0) (-9) 3 s = -9 ∨ (20 ≤ up (up σ 2 (σ 1 0) n) 3 (σ 1 0) (-9) 3 s ∧ up (up σ 2 (σ 1 0) n) 3 (σ 1 0) (-9) 3 s ≤ 400)
    rw [up_i]
    by_cases q : s = σ 1 0
    · rw [if_pos q]; exact Or.inl rfl
    · rw [if_neg q]; exact a3 s s0 (by omega)
  · intro k k0 k1
    have := a6 k k0 k1
    rw [up_s]
    exact ⟨⟨this.1.1, show σ 5 k < σ 1 0 + 1 by omega⟩, this.2.1, ⟨this.2.2.1.1, show σ 7 k < σ 1 0 + 1 by omega⟩, this.2.2.2⟩
theorem wf_bts {σ : St} {s n : Int} (h : WfC σ) (hn : 1 ≤ n ∧ n ≤ 99) : WfC (up σ 2 s n) := by
  obtain ⟨a1, a2, a3, a4, a5, a6, a7, a8, a9⟩ := h
  refine ⟨a1, ?_, a3, a4, a5, a6, a7, a8, a9⟩
  intro x x0 x1
  rw [up_i]
  by_cases q : x = s
  · rw [if_pos q]; exact hn
  · rw [if_neg q]; exact a2 x x0 x1
theorem wf_pin {σ : St} {s n : Int} (h : WfC σ) (hn : n = -9 ∨ (20 ≤ n ∧ n ≤ 400)) : WfC (up σ 3 s n) := by
  obtain ⟨a1, a2, a3, a4, a5, a6, a7, a8, a9⟩ := h
  refine ⟨a1, a2, ?_, a4, a5, a6, a7, a8, a9⟩
  intro x x0 x1
  rw [up_i]
  by_cases q : x = s
  · rw [if_pos q]; exact hn
  · rw [if_neg q]; exact a3 x x0 x1
theorem wf_st {σ : St} {n : Int} (h : WfC σ) (hn : 20 ≤ n ∧ n ≤ 400) : WfC (up σ 0 0 n) := by
  obtain ⟨a1, a2, a3, a4, a5, a6, a7, a8, a9⟩ := h
  exact ⟨a1, a2, a3, by rw [up_s]; exact hn, a5, a6, a7, a8, a9⟩
theorem wf_ear {σ : St} {k n : Int} (h : WfC σ) (hn : 0 ≤ n ∧ n ≤ 9) : WfC (up σ 9 k n) := by
  obtain ⟨a1, a2, a3, a4, a5, a6, a7, a8, a9⟩ := h
  refine ⟨a1, a2, a3, a4, a5, ?_, a7, a8, a9⟩
  intro x x0 x1
  have := a6 x x0 x1
  refine ⟨this.1, this.2.1, this.2.2.1, this.2.2.2.1, ?_, this.2.2.2.2.2⟩
  rw [up_i]
  by_cases q : x = k
  · rw [if_pos q]; exact hn
  · rw [if_neg q]; exact this.2.2.2.2.1
theorem wf_clr {σ : St} (h : WfC σ) : WfC (up (up σ 1 0 0) 4 0 0) := by
  obtain ⟨a1, a2, a3, a4, a5, a6, a7, a8, a9⟩ := h
  refine ⟨?_, ?_, ?_, a4, ?_, ?_, a7, a8, a9⟩
  · show 0 ≤ up σ 1 0 0 1 0 ∧ up σ 1 0 0 1 0 ≤ 7
    rw [up_s]; omega
  · intro s s0 s1
    have : s < up σ 1 0 0 1 0 := s1
    rw [up_s] at this; omega
  · intro s s0 s1
    have : s < up σ 1 0 0 1 0 := s1
    rw [up_s] at this; omega
  · rw [up_s]; omega
  · intro s s0 s1
    rw [up_s] at s1; omega
theorem wf_tie {σ : St} {a v b w e : Int} (h : WfC σ) (h12 : σ 4 0 < 12) (ha : 0 ≤ a ∧ a < σ 1 0) (hb : 0 ≤ b ∧ b < σ 1 0) (hab : ¬ a = b) (hv : 0 ≤ v ∧ v ≤ 19) (hw : 0 ≤ w ∧ w ≤ 19) (he : 0 ≤ e ∧ e ≤ 9) : WfC (up (up (up (up (up (up σ 5 (σ 4 0) a) 6 (σ 4 0) v) 7 (σ 4 0) b) 8 (σ 4 0) w) 9 (σ 4 0) e) 4 0 (σ 4 0 + 1)) := by
  obtain ⟨a1, a2, a3, a4, a5, a6, a7, a8, a9⟩ := h
  refine ⟨a1, a2, a3, a4, ?_, ?_, a7, a8, a9⟩
  · rw [up_s]; omega
  · intro k k0 k1
    rw [up_s] at k1
    show (0 ≤ up σ 5 (σ 4 0) a 5 k ∧ up σ 5 (σ 4 0) a 5 k < σ 1 0) ∧ (0 ≤ up σ 6 (σ 4 0) v 6 k ∧ up σ 6 (σ 4 0) v 6 k < 20) ∧ (0 ≤ up σ 7 (σ 4 0) b 7 k ∧ up σ 7 (σ 4 0) b 7 k < σ 1 0) ∧ (0 ≤ up σ 8 (σ 4 0) w 8 k ∧ up σ 8 (σ 4 0) w 8 k < 20) ∧ (0 ≤ up σ 9 (σ 4 0) e 9 k ∧ up σ 9 (σ 4 0) e 9 k ≤ 9) ∧ up σ 5 (σ 4 0) a 5 k ≠ up σ 7 (σ 4 0) b 7 k
    rw [up_i, up_i, up_i, up_i, up_i]
    by_cases q : k = σ 4 0
    · simp only [if_pos q]
      exact ⟨ha, ⟨hv.1, by omega⟩, hb, ⟨hw.1, by omega⟩, he, hab⟩
    · simp only [if_neg q]
      exact a6 k k0 (by omega)
theorem wf_unt {σ u : St} {k : Int} (h : WfC σ) (hk : 0 ≤ k ∧ k < σ 4 0) (hn : ∀ F, (F < 4 ∨ 9 < F) → u F = σ F) (h4 : u 4 0 = σ 4 0 - 1) (h5 : ∀ y, u 5 y = (if k ≤ y ∧ y < σ 4 0 - 1 then σ 5 (y + 1) else σ 5 y)) (h6 : ∀ y, u 6 y = (if k ≤ y ∧ y < σ 4 0 - 1 then σ 6 (y + 1) else σ 6 y)) (h7 : ∀ y, u 7 y = (if k ≤ y ∧ y < σ 4 0 - 1 then σ 7 (y + 1) else σ 7 y)) (h8 : ∀ y, u 8 y = (if k ≤ y ∧ y < σ 4 0 - 1 then σ 8 (y + 1) else σ 8 y)) (h9 : ∀ y, u 9 y = (if k ≤ y ∧ y < σ 4 0 - 1 then σ 9 (y + 1) else σ 9 y)) : WfC u := by
  obtain ⟨a1, a2, a3, a4, a5, a6, a7, a8, a9⟩ := h
  unfold WfC
  rw [hn 0 (by omega), hn 1 (by omega), hn 2 (by omega), hn 3 (by omega), hn 15 (by omega), hn 16 (by omega), h4]
  refine ⟨a1, a2, a3, a4, by omega, ?_, a7, a8, a9⟩
  intro y y0 y1
  rw [h5, h6, h7, h8, h9]
  by_cases q : k ≤ y ∧ y < σ 4 0 - 1
  · simp only [if_pos q]; exact a6 (y + 1) (by omega) (by omega)
  · simp only [if_neg q]; exact a6 y y0 (by omega)
theorem wf_ins {σ u : St} {m : Int} (h : WfC σ) (hm : 20 ≤ m ∧ m ≤ 400) (h16 : σ 16 0 < 16) (hx : ixF (σ 15) m (σ 16 0).toNat = -9) (hn : ∀ F, F ≠ 15 → F ≠ 16 → u F = σ F) (e16 : u 16 0 = σ 16 0 + 1) (e15 : u 15 = insM (σ 15) m (σ 16 0)) : WfC u := by
  obtain ⟨a1, a2, a3, a4, a5, a6, a7, a8, a9⟩ := h
  unfold WfC
  rw [hn 0 (by decide) (by decide), hn 1 (by decide) (by decide), hn 2 (by decide) (by decide), hn 3 (by decide) (by decide), hn 4 (by decide) (by decide), hn 5 (by decide) (by decide), hn 6 (by decide) (by decide), hn 7 (by decide) (by decide), hn 8 (by decide) (by decide), hn 9 (by decide) (by decide), e16, e15]
  have no : ∀ k : Int, 0 ≤ k → k < σ 16 0 → ¬ σ 15 k = m := by
    rcases ixF_cases (σ 15) m (σ 16 0).toNat with q | q
    · intro k k0 k1; exact q.2 k k0 (by omega)
    · omega
  have pr := insP_rng (σ 15) m (σ 16 0).toNat
  have pg := ins_ord (mk := σ 15) (m := m) (n := σ 16 0) a7.1 no a9
  refine ⟨a1, a2, a3, a4, a5, a6, by omega, ?_, ?_⟩
  · intro i i0 i1
    unfold insM
    by_cases q1 : i = insP (σ 15) m (σ 16 0).toNat
    · rw [if_pos q1]; exact hm
    · rw [if_neg q1]
      by_cases q2 : insP (σ 15) m (σ 16 0).toNat < i ∧ i ≤ σ 16 0
      · rw [if_pos q2]; exact a8 (i - 1) (by omega) (by omega)
      · rw [if_neg q2]; exact a8 i i0 (by omega)
  · intro i i0 i1
    unfold insM
    by_cases q1 : i = insP (σ 15) m (σ 16 0).toNat
    · rw [if_pos q1, if_neg (show ¬ i + 1 = insP (σ 15) m (σ 16 0).toNat by omega), if_pos (show insP (σ 15) m (σ 16 0).toNat < i + 1 ∧ i + 1 ≤ σ 16 0 by omega), show i + 1 - 1 = i by omega]
      exact pg.2 i (by omega) (by omega)
    · rw [if_neg q1]
      by_cases q2 : insP (σ 15) m (σ 16 0).toNat < i ∧ i ≤ σ 16 0
      · rw [if_pos q2, if_neg (show ¬ i + 1 = insP (σ 15) m (σ 16 0).toNat by omega), if_pos (show insP (σ 15) m (σ 16 0).toNat < i + 1 ∧ i + 1 ≤ σ 16 0 by omega)]
        have := a9 (i - 1) (by omega) (by omega)
        rw [show i - 1 + 1 = i by omega] at this
        rw [show i + 1 - 1 = i by omega]
        exact this
      · rw [if_neg q2]
        by_cases q3 : i + 1 = insP (σ 15) m (σ 16 0).toNat
        · rw [if_pos q3]
          exact pg.1 i i0 (by omega)
        · rw [if_neg q3, if_neg (show ¬ (insP (σ 15) m (σ 16 0).toNat < i + 1 ∧ i + 1 ≤ σ 16 0) by omega)]
          exact a9 i i0 (by omega)
theorem wf_del {σ u : St} {p : Int} (h : WfC σ) (hp : 0 ≤ p ∧ p < σ 16 0) (hn : ∀ F, F ≠ 15 → F ≠ 16 → u F = σ F) (e16 : u 16 0 = σ 16 0 - 1) (e15 : u 15 = delM (σ 15) p (σ 16 0)) : WfC u := by
  obtain ⟨a1, a2, a3, a4, a5, a6, a7, a8, a9⟩ := h
  unfold WfC
  rw [hn 0 (by decide) (by decide), hn 1 (by decide) (by decide), hn 2 (by decide) (by decide), hn 3 (by decide) (by decide), hn 4 (by decide) (by decide), hn 5 (by decide) (by decide), hn 6 (by decide) (by decide), hn 7 (by decide) (by decide), hn 8 (by decide) (by decide), hn 9 (by decide) (by decide), e16, e15]
  refine ⟨a1, a2, a3, a4, a5, a6, by omega, ?_, ?_⟩
  · intro i i0 i1
    unfold delM
    by_cases q : p ≤ i ∧ i < σ 16 0 - 1
    · rw [if_pos q]; exact a8 (i + 1) (by omega) (by omega)
    · rw [if_neg q]; exact a8 i i0 (by omega)
  · intro i i0 i1
    unfold delM
    by_cases q : p ≤ i ∧ i < σ 16 0 - 1
    · rw [if_pos q, if_pos (show p ≤ i + 1 ∧ i + 1 < σ 16 0 - 1 by omega)]; exact a9 (i + 1) (by omega) (by omega)
    · rw [if_neg q]
      by_cases q2 : p ≤ i + 1 ∧ i + 1 < σ 16 0 - 1
      · rw [if_pos q2]
        have b1 := a9 i i0 (by omega)
        have b2 := a9 (i + 1) (by omega) (by omega)
        omega
      · rw [if_neg q2]; exact a9 i i0 (by omega)
