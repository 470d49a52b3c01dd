/-! ===== best plays of the class: a tree from a root ===== -/
def vb (seen x : Int) : Int := if seen.toNat.testBit x.toNat = true then 1 else 0
theorem vb_01 (seen x : Int) : vb seen x = 0 ∨ vb seen x = 1 := by
  unfold vb
  split
  · exact Or.inr rfl
  · exact Or.inl rfl
theorem iShl_n {k : Int} : (iShl 1 k).toNat = 2 ^ k.toNat := by
  unfold iShl
  rw [Int.one_mul, Int.toNat_natCast]
theorem vb_or {seen nx x : Int} (hn : 0 ≤ nx) (hx : 0 ≤ x) : vb (iOr seen (iShl 1 nx)) x = if x = nx then 1 else vb seen x := by
  unfold vb iOr
  rw [Int.toNat_natCast, iShl_n, Nat.testBit_or, Nat.testBit_two_pow]
  by_cases q : x = nx
  · subst q
    simp
  · have : ¬ nx.toNat = x.toNat := by omega
    simp [q, this]
theorem vb_and {seen nx : Int} : iAnd seen (iShl 1 nx) = 0 ↔ vb seen nx = 0 := by
  unfold vb iAnd
  rw [iShl_n]
  constructor
  · intro h
    have h2 : seen.toNat &&& 2 ^ nx.toNat = 0 := by omega
    have h3 : (seen.toNat &&& 2 ^ nx.toNat).testBit nx.toNat = false := by rw [h2]; exact Nat.zero_testBit _
    rw [Nat.testBit_and, Nat.testBit_two_pow] at h3
    simp at h3
    rw [if_neg (by simp [h3])]
  · intro h
    have h2 : seen.toNat.testBit nx.toNat = false := by
      cases hq : seen.toNat.testBit nx.toNat with
      | false => rfl
      | true => rw [hq, if_pos rfl] at h; omega
    have h3 : seen.toNat &&& 2 ^ nx.toNat = 0 := by
      apply Nat.eq_of_testBit_eq
      intro i
      rw [Nat.testBit_and, Nat.testBit_two_pow, Nat.zero_testBit]
      by_cases e : nx.toNat = i
      · rw [← e, h2]; rfl
      · simp [e]
    rw [h3]; rfl
theorem iOr7 {a b : Int} (ha : 0 ≤ a ∧ a < 128) (hb : 0 ≤ b ∧ b < 128) : 0 ≤ iOr a b ∧ iOr a b < 128 := by
  have := Nat.or_lt_two_pow (x := a.toNat) (y := b.toNat) (n := 7) (by omega) (by omega)
  unfold iOr
  omega
theorem shl7 {k : Int} (h : 0 ≤ k ∧ k < 7) : 1 ≤ iShl 1 k ∧ iShl 1 k < 128 := by
  rcases (show k = 0 ∨ k = 1 ∨ k = 2 ∨ k = 3 ∨ k = 4 ∨ k = 5 ∨ k = 6 by omega) with q | q | q | q | q | q | q <;> subst q <;> decide
section OI
variable (a v b w : Int → Int) (n : Nat) (root : Int) (u : St) (seen : Int)
def OIv : Prop := (1 ≤ u 25 0 ∧ u 25 0 ≤ 7) ∧ u 23 0 = root ∧ (∀ i, 0 ≤ i → i < u 25 0 → (0 ≤ u 23 i ∧ u 23 i < 7) ∧ vb seen (u 23 i) = 1 ∧ jS a v b w n 0 (u 23 i) = jS a v b w n 0 root) ∧ (∀ i j, 0 ≤ i → i < j → j < u 25 0 → u 23 i ≠ u 23 j) ∧ TR a v b w n (u 25 0) (u 23) (fun i => u 24 (u 23 i)) ∧ (∀ x, 0 ≤ x ∧ x < 7 → vb seen x = 1 → ∃ i, (0 ≤ i ∧ i < u 25 0) ∧ u 23 i = x) ∧ sz7 (vb seen) 1 = u 25 0 ∧ (0 ≤ seen ∧ seen < 128)
def OCl (x m : Int) : Prop := ∀ k : Nat, (k : Int) < m → jK a v b w k = 0 → (a k = x → vb seen (b k) = 1) ∧ (b k = x → vb seen (a k) = 1)
variable {a v b w n root u seen}
theorem OI_0 {u0 : St} (hr : 0 ≤ root ∧ root < 7) : OIv a v b w n root (up (up u0 23 0 root) 25 0 1) (iShl 1 root) := by
  have hv : ∀ x, 0 ≤ x → vb (iShl 1 root) x = if x = root then 1 else 0 := by
    intro x hx
    unfold vb
    rw [iShl_n, Nat.testBit_two_pow]
    by_cases q : x = root
    · subst q; simp
    · have : ¬ root.toNat = x.toNat := by omega
      simp [q, this]
  have e25 : up (up u0 23 0 root) 25 0 1 25 0 = 1 := up_s _ _ _ _
  have e23 : up (up u0 23 0 root) 25 0 1 23 0 = root := up_s u0 23 0 root
  unfold OIv
  rw [e25, e23]
  have sh := shl7 hr
  refine ⟨by omega, rfl, ?_, ?_, ?_, ?_, ?_, by omega⟩
  · intro i i0 i1
    rw [show i = 0 by omega, e23]
    exact ⟨hr, by rw [hv _ hr.1, if_pos rfl], rfl⟩
  · intro i j i0 i1 i2; omega
  · intro i i0 i1; omega
  · intro x hx hq
    rw [hv x hx.1] at hq
    refine ⟨0, by omega, ?_⟩
    rw [e23]
    by_cases q : x = root
    · exact q.symm
    · rw [if_neg q] at hq; omega
  · unfold sz7
    rw [hv 0 (by omega), hv 1 (by omega), hv 2 (by omega), hv 3 (by omega), hv 4 (by omega), hv 5 (by omega), hv 6 (by omega)]
    rcases (show root = 0 ∨ root = 1 ∨ root = 2 ∨ root = 3 ∨ root = 4 ∨ root = 5 ∨ root = 6 by omega) with q | q | q | q | q | q | q <;> subst q <;> decide
theorem OI_fit (h : OIv a v b w n root u seen) {x : Int} (hx : 0 ≤ x ∧ x < 7) (h0 : vb seen x = 0) : u 25 0 ≤ 6 := by
  have := sz7_gap (f := vb seen) hx (by omega)
  rw [h.2.2.2.2.2.2.1] at this
  exact this
theorem OI_add (h : OIv a v b w n root u seen) {i nx k : Int} (hi : 0 ≤ i ∧ i < u 25 0) (hk : 0 ≤ k ∧ k < n) (hk0 : jK a v b w k.toNat = 0) (hx : (a k = u 23 i ∧ nx = b k) ∨ (b k = u 23 i ∧ nx = a k)) (hn : 0 ≤ nx ∧ nx < 7) (h0 : vb seen nx = 0) : OIv a v b w n root (up (up (up u 24 nx k) 23 (u 25 0) nx) 25 0 (u 25 0 + 1)) (iOr seen (iShl 1 nx)) := by
  have fit := OI_fit h hn h0
  obtain ⟨h1, h2, h3, h4, h5, h6, h7, h8⟩ := h
  have e25 : up (up (up u 24 nx k) 23 (u 25 0) nx) 25 0 (u 25 0 + 1) 25 0 = u 25 0 + 1 := up_s _ _ _ _
  have e23 : ∀ j, up (up (up u 24 nx k) 23 (u 25 0) nx) 25 0 (u 25 0 + 1) 23 j = if j = u 25 0 then nx else u 23 j := fun j => up_i (up u 24 nx k) 23 (u 25 0) nx j
  have e24 : ∀ j, up (up (up u 24 nx k) 23 (u 25 0) nx) 25 0 (u 25 0 + 1) 24 j = if j = nx then k else u 24 j := fun j => up_i u 24 nx k j
  have kN : ((k.toNat : Nat) : Int) = k := by omega
  have kept := jS_kept (a := a) (v := v) (b := b) (w := w) (k := k.toNat) (n := n) (by omega) hk0
  rw [kN] at kept
  have hxi := h3 i hi.1 hi.2
  have jn : jS a v b w n 0 nx = jS a v b w n 0 root := by
    rcases hx with ⟨q1, q2⟩ | ⟨q1, q2⟩
    · rw [q2, ← kept.1, q1]; exact hxi.2.2
    · rw [q2, kept.1, q1]; exact hxi.2.2
  have nv : ∀ j, 0 ≤ j → j < u 25 0 → u 23 j ≠ nx := by
    intro j j0 j1 e
    have := (h3 j j0 j1).2.1
    rw [e] at this; omega
  have sh := shl7 hn
  unfold OIv
  rw [e25]
  refine ⟨by omega, ?_, ?_, ?_, ?_, ?_, ?_, iOr7 h8 (by omega)⟩
  · rw [e23, if_neg (by omega)]; exact h2
  · intro j j0 j1
    rw [e23]
    by_cases q : j = u 25 0
    · rw [if_pos q]
      exact ⟨hn, by rw [vb_or hn.1 hn.1, if_pos rfl], jn⟩
    · rw [if_neg q]
      have := h3 j j0 (by omega)
      refine ⟨this.1, ?_, this.2.2⟩
      rw [vb_or hn.1 this.1.1]
      split
      · rfl
      · exact this.2.1
  · intro x y x0 xy y1
    rw [e23, e23]
    by_cases q : y = u 25 0
    · rw [if_pos q, if_neg (by omega)]
      exact nv x x0 (by omega)
    · rw [if_neg q, if_neg (by omega)]
      exact h4 x y x0 xy (by omega)
  · intro j j0 j1
    dsimp only
    rw [e23 j]
    by_cases q : j = u 25 0
    · rw [if_pos q, e24, if_pos rfl]
      refine ⟨by omega, hk0, i, by omega, ?_⟩
      rw [e23 i, if_neg (by omega)]
      rcases hx with ⟨q1, q2⟩ | ⟨q1, q2⟩
      · exact Or.inl ⟨q1.symm, q2⟩
      · exact Or.inr ⟨q1.symm, q2⟩
    · rw [if_neg q, e24, if_neg (nv j (by omega) (by omega))]
      obtain ⟨t1, t2, r, t3, t4⟩ := h5 j j0 (by omega)
      refine ⟨t1, t2, r, t3, ?_⟩
      rw [e23 r, if_neg (by omega)]
      exact t4
  · intro x hx' hq
    rw [vb_or hn.1 hx'.1] at hq
    by_cases q : x = nx
    · refine ⟨u 25 0, by omega, ?_⟩
      rw [e23, if_pos rfl, q]
    · rw [if_neg q] at hq
      obtain ⟨j, j1, j2⟩ := h6 x hx' hq
      refine ⟨j, by omega, ?_⟩
      rw [e23, if_neg (by omega)]; exact j2
  · rw [← h7]
    refine sz7_put hn (by omega) (by rw [vb_or hn.1 hn.1, if_pos rfl]) (fun x hx' hne => ?_)
    rw [vb_or hn.1 hx'.1, if_neg hne]
theorem OC_mono {seen' x m : Int} (hm : ∀ y, 0 ≤ y → vb seen y = 1 → vb seen' y = 1) (hN : ∀ k : Nat, (k : Int) < m → 0 ≤ a k ∧ 0 ≤ b k) (h : OCl a v b w seen x m) : OCl a v b w seen' x m := by
  intro k hk h0
  have := h k hk h0
  exact ⟨fun q => hm _ (hN k hk).2 (this.1 q), fun q => hm _ (hN k hk).1 (this.2 q)⟩
theorem OC_step {x k : Int} (hk : 0 ≤ k) (h : OCl a v b w seen x k) (hs : jK a v b w k.toNat = 0 → (a k = x → vb seen (b k) = 1) ∧ (b k = x → vb seen (a k) = 1)) : OCl a v b w seen x (k + 1) := by
  intro j hj h0
  by_cases q : (j : Int) = k
  · have e : k.toNat = j := by omega
    rw [e] at hs
    rw [q]
    exact hs h0
  · exact h j (by omega) h0
theorem vb_mono {nx : Int} (hn : 0 ≤ nx) : ∀ y, 0 ≤ y → vb seen y = 1 → vb (iOr seen (iShl 1 nx)) y = 1 := by
  intro y hy h
  rw [vb_or hn hy]
  split
  · rfl
  · exact h
theorem OI_TF (h : OIv a v b w n root u seen) (hN : tOk a v b w n) (hr : 0 ≤ root ∧ root < 7) (hc : ∀ i, 0 ≤ i → i < u 25 0 → OCl a v b w seen (u 23 i) n) : TF a v b w n root (u 25 0) (u 23) (fun i => u 24 (u 23 i)) := by
  obtain ⟨h1, h2, h3, h4, h5, h6, h7, h8⟩ := h
  refine ⟨h1, h2, fun i i0 i1 => (h3 i i0 i1).1, h4, h5, fun x hx => ⟨fun e => ?_, ?_⟩⟩
  · have cl := jS_close (a := a) (v := v) (b := b) (w := w) (fun y => vb seen y = 1) n (fun k hk h0 => by
      have t := hN k hk
      constructor
      · intro q
        obtain ⟨i, i1, i2⟩ := h6 (a k) t.1 q
        exact (hc i i1.1 i1.2 k (by omega) h0).1 i2.symm
      · intro q
        obtain ⟨i, i1, i2⟩ := h6 (b k) t.2.1 q
        exact (hc i i1.1 i1.2 k (by omega) h0).2 i2.symm) x root e
    have hv : vb seen root = 1 := by have := (h3 0 (by omega) (by omega)).2.1; rwa [h2] at this
    exact h6 x hx (cl.mpr hv)
  · rintro ⟨i, i1, i2⟩
    rw [← i2]
    exact (h3 i i1.1 i1.2).2.2
end OI
theorem nx_or {a b x r : Int} (h : r = if a = x then b else if b = x then a else -9) : (r = -9 ∧ ¬ a = x ∧ ¬ b = x) ∨ ((a = x ∧ r = b) ∨ (b = x ∧ r = a)) := by
  by_cases q : a = x
  · rw [if_pos q] at h; exact Or.inr (Or.inl ⟨q, h⟩)
  · rw [if_neg q] at h
    by_cases q2 : b = x
    · rw [if_pos q2] at h; exact Or.inr (Or.inr ⟨q2, h⟩)
    · rw [if_neg q2] at h; exact Or.inl ⟨h, q, q2⟩
/-- all of a tree are SECTIONS that there are -/
theorem TC_sec {σ : St} (hwf : WfC σ) {at_ by_ : Int → Int} {c r : Int} (hr : 0 ≤ r ∧ r < σ 1 0) (h : TF (σ 5) (σ 6) (σ 7) (σ 8) (σ 4 0).toNat r c at_ by_) {t : Int} (t0 : 0 ≤ t) (t1 : t < c) : 0 ≤ at_ t ∧ at_ t < σ 1 0 := by
  by_cases q : t = 0
  · rw [q, h.2.1]; exact hr
  · obtain ⟨b1, b2, j, b3, b4⟩ := h.2.2.2.2.1 t (by omega) t1
    have n := hwf.n
    have ht := hwf.tie (k := by_ t) (by omega) (by omega)
    rcases b4 with ⟨_, e⟩ | ⟨_, e⟩
    · rw [e]; exact ht.2.2.1
    · rw [e]; exact ht.1
def ALc (u : St) (s m : Int) : Prop := u 20 s ≤ m ∧ m ≤ u 21 s
def tc (u : St) (s m : Int) : Int := u 22 (16 * s + m)
/-- one TIE of the tree, by the child's mark x and the parent's m -/
def HXc (σ : St) (child k m x : Int) : Int := if child = σ 7 k then hmF (σ 6) (σ 8) (σ 9) (σ 15) k m x else hmF (σ 6) (σ 8) (σ 9) (σ 15) k x m
def MUc (σ u : St) (child k m μ : Int) : Prop := (∀ x, ALc σ child x → μ ≤ tc u child x + HXc σ child k m x) ∧ ∃ x, ALc σ child x ∧ μ = tc u child x + HXc σ child k m x
theorem gat_step {σ u3 u4 : St} {x r p : Int} (hwf : WfC σ) (hr : 0 ≤ r ∧ r < σ 1 0) (hT : TF (σ 5) (σ 6) (σ 7) (σ 8) (σ 4 0).toNat r (σ 25 0) (σ 23) (fun i => σ 24 (σ 23 i))) (hfl : ∀ s, 0 ≤ s → s < σ 1 0 → 0 ≤ σ 20 s ∧ σ 20 s ≤ σ 21 s ∧ σ 21 s < σ 16 0) (hx : 1 ≤ x ∧ x < σ 25 0)
    (hp : p = if σ 5 (σ 24 (σ 23 x)) = σ 23 x then σ 7 (σ 24 (σ 23 x)) else if σ 7 (σ 24 (σ 23 x)) = σ 23 x then σ 5 (σ 24 (σ 23 x)) else -9)
    (hD : DPI (σ 1 0) (ALc σ) (σ 5) (σ 7) (hmF (σ 6) (σ 8) (σ 9) (σ 15)) (σ 23) (fun i => σ 24 (σ 23 i)) (σ 25 0).toNat (tc u3) (x.toNat + 1)) (hB : ∀ s m, 0 ≤ s → s < σ 1 0 → 0 ≤ m → m < 16 → 0 ≤ tc u3 s m ∧ tc u3 s m ≤ 518400 * zF x)
    (hn : ∀ y, ¬ (16 * p + σ 20 p ≤ y ∧ y < 16 * p + (σ 21 p + 1)) → u4 22 y = u3 22 y) (hm : ∀ y, σ 20 p ≤ y → y < σ 21 p + 1 → MUc σ u3 (σ 23 x) (σ 24 (σ 23 x)) y (u4 22 (16 * p + y) - u3 22 (16 * p + y))) :
    DPI (σ 1 0) (ALc σ) (σ 5) (σ 7) (hmF (σ 6) (σ 8) (σ 9) (σ 15)) (σ 23) (fun i => σ 24 (σ 23 i)) (σ 25 0).toNat (tc u4) x.toNat ∧ ∀ s m, 0 ≤ s → s < σ 1 0 → 0 ≤ m → m < 16 → 0 ≤ tc u4 s m ∧ tc u4 s m ≤ 518400 * zF (x - 1) := by
  obtain ⟨n1, n0, n4, n16⟩ := hwf.n
  have hsec := fun (t : Int) t0 t1 => TC_sec hwf hr hT (t := t) t0 t1
  have hTF := hT
  obtain ⟨c1, c2, c3, c4, c5, c6⟩ := hT
  obtain ⟨b1, b2, j, b3, b4⟩ := c5 x hx.1 hx.2
  dsimp only at b1 b2 b4
  have ht := hwf.tie (k := σ 24 (σ 23 x)) (by omega) (by omega)
  have pj : p = σ 23 j := by
    rcases b4 with ⟨e1, e2⟩ | ⟨e1, e2⟩
    · rw [if_neg (by omega), if_pos e2.symm] at hp; rw [hp, e1]
    · rw [if_pos e2.symm] at hp; rw [hp, e1]
  have hps := hsec j b3.1 (by omega)
  rw [← pj] at hps
  have flp := hfl p hps.1 hps.2
  have row : ∀ s m, 0 ≤ m → m < 16 → s ≠ p → tc u4 s m = tc u3 s m := by
    intro s m m0 m1 hne
    exact hn _ (by omega)
  have zs := zF_step (i := x) (by omega)
  constructor
  · refine DP_step (C := tc u3) (C' := tc u4) (i := x.toNat) (by omega) (by omega) (fun t t0 t1 => hsec t t0 (by omega)) (fun t r' t0 t1 t2 => c4 t r' t0 t1 (by omega)) (fun t t1 t2 => TR_low c5 t1 (by omega)) (j := j) (by omega) (by rw [show ((x.toNat : Nat) : Int) = x by omega]; exact b4) hD (fun m => u4 22 (16 * p + m) - u3 22 (16 * p + m)) ?_ ?_ ?_
    · intro t t0 t1 tj m hm'
      have hs := hsec t t0 (by omega)
      have f := hfl _ hs.1 hs.2
      refine row _ m (by have := hm'.1; omega) (by have := hm'.2; omega) (fun e => ?_)
      rw [pj] at e
      rcases (show t < j ∨ j < t by omega) with z | z
      · exact c4 t j t0 z (by omega) e
      · exact c4 j t b3.1 z (by omega) e.symm
    · intro m hm'
      rw [← pj]
      show u4 22 (16 * p + m) = u3 22 (16 * p + m) + (u4 22 (16 * p + m) - u3 22 (16 * p + m))
      omega
    · intro m hm'
      rw [← pj] at hm'
      rw [show ((x.toNat : Nat) : Int) = x by omega]
      have := hm m hm'.1 (by have := hm'.2; omega)
      exact this
  · intro s m s0 s1 m0 m1
    by_cases e : s = p
    · subst e
      have b := hB s m s0 s1 m0 m1
      by_cases q : σ 20 s ≤ m ∧ m < σ 21 s + 1
      · obtain ⟨z1, y, z2, z3⟩ := hm m q.1 q.2
        have hc := hsec x (by omega) hx.2
        have fc := hfl _ hc.1 hc.2
        have by' := hB (σ 23 x) y hc.1 hc.2 (by have := z2.1; omega) (by have := z2.2; omega)
        have hmy := hwf.mk (k := y) (by have := z2.1; omega) (by have := z2.2; omega)
        have hmm := hwf.mk (k := m) m0 (by omega)
        have h1 := (hmF_rng (v := σ 6) (w := σ 8) (er := σ 9) (mk := σ 15) (k := σ 24 (σ 23 x)) (i := m) (j := y) ht.2.1 ht.2.2.2.1 ht.2.2.2.2.1 hmm hmy).2
        have h2 := (hmF_rng (v := σ 6) (w := σ 8) (er := σ 9) (mk := σ 15) (k := σ 24 (σ 23 x)) (i := y) (j := m) ht.2.1 ht.2.2.2.1 ht.2.2.2.2.1 hmy hmm).2
        have h3 : 0 ≤ HXc σ (σ 23 x) (σ 24 (σ 23 x)) m y ∧ HXc σ (σ 23 x) (σ 24 (σ 23 x)) m y ≤ 518400 := by
          unfold HXc
          split
          · exact h1
          · exact h2
        have e1 : tc u4 s m = tc u3 s m + (u4 22 (16 * s + m) - u3 22 (16 * s + m)) := by unfold tc; omega
        rw [e1, z3]
        omega
      · have : tc u4 s m = tc u3 s m := hn _ (by omega)
        rw [this]
        omega
    · rw [row s m m0 m1 e]
      have := hB s m s0 s1 m0 m1
      omega
/-- what may be, by a first and a last mark -/
def FLr (nS nM : Int) (fo f g : Int → Int) : Prop := ∀ s, 0 ≤ s → s < nS → (fo s = -9 ∧ f s = 0 ∧ g s = nM - 1) ∨ ((0 ≤ fo s ∧ fo s < nM) ∧ f s = fo s ∧ g s = fo s)
theorem FL_iff {nS nM : Int} {fo : Int → Int} {u : St} (h : FLr nS nM fo (u 20) (u 21)) {s m : Int} (hs : 0 ≤ s ∧ s < nS) : ALf nM fo s m ↔ ALc u s m := by
  unfold ALf ALc
  rcases h s hs.1 hs.2 with ⟨e1, e2, e3⟩ | ⟨e1, e2, e3⟩ <;> omega
theorem FL_ok {nS nM : Int} {fo : Int → Int} {u : St} (h : FLr nS nM fo (u 20) (u 21)) (g : Int → Int) : aOk nS (ALf nM fo) g ↔ aOk nS (ALc u) g :=
  ⟨fun q s s0 s1 => (FL_iff h ⟨s0, s1⟩).mp (q s s0 s1), fun q s s0 s1 => (FL_iff h ⟨s0, s1⟩).mpr (q s s0 s1)⟩
theorem MinH_ex {nS nM : Int} {fo : Int → Int} {H : (Int → Int) → Int} (h0 : ∀ g, aOk nS (ALf nM fo) g → 0 ≤ H g) (hne : ∃ g, aOk nS (ALf nM fo) g) : ∃ x, MinH nS nM fo H x := by
  have key : ∀ n : Nat, ∀ g, aOk nS (ALf nM fo) g → (H g).toNat ≤ n → ∃ x, MinH nS nM fo H x := by
    intro n
    induction n with
    | zero =>
      intro g hg hn
      exact ⟨H g, fun g' hg' => by have := h0 g hg; have := h0 g' hg'; omega, g, hg, rfl⟩
    | succ n ih =>
      intro g hg hn
      by_cases q : ∃ g', aOk nS (ALf nM fo) g' ∧ H g' < H g
      · obtain ⟨g', o, l⟩ := q
        exact ih g' o (by have := h0 g' o; omega)
      · refine ⟨H g, fun g' hg' => ?_, g, hg, rfl⟩
        by_cases z : H g' < H g
        · exact absurd ⟨g', hg', z⟩ q
        · omega
  obtain ⟨g, hg⟩ := hne
  exact key _ g hg (Nat.le_refl _)
theorem FPc_step {nS nM x s f : Int} {F0 fo fo' : Int → Int} {H : (Int → Int) → Int} {pl : Int → Prop} {C : Int → Int} (h : FPs nS nM F0 H pl x s fo) (hs : 0 ≤ s ∧ s < nS) (hp : pl s)
    (hA : ∀ g, aOk nS (ALf nM fo) g → C (g s) ≤ H g) (hB : ∀ g, aOk nS (ALf nM fo) g → ∃ g', aOk nS (ALf nM fo) g' ∧ g' s = g s ∧ H g' = C (g s))
    (hf : ALf nM fo s f) (h1 : ∀ m, ALf nM fo s m → C f ≤ C m) (h2 : ∀ m, ALf nM fo s m → m < f → C f < C m) (hfo : ∀ t, fo' t = if t = s then f else fo t) : C f = x ∧ FPs nS nM F0 H pl x (s + 1) fo' := by
  have hmin := h.2.2.2.2.2.1
  obtain ⟨m1, g0, o0, e0⟩ := hmin
  have up1 : C f ≤ x := by
    have a1 := hA g0 o0
    have a2 := h1 (g0 s) (o0 s hs.1 hs.2)
    omega
  have og : aOk nS (ALf nM fo) (fun t => if t = s then f else g0 t) := by
    intro t t0 t1
    dsimp only
    by_cases q : t = s
    · rw [if_pos q, q]; exact hf
    · rw [if_neg q]; exact o0 t t0 t1
  obtain ⟨g1, o1, e1, e2⟩ := hB _ og
  rw [if_pos rfl] at e1 e2
  have lo1 : x ≤ C f := by
    have := m1 g1 o1
    omega
  have ex : C f = x := by omega
  refine ⟨ex, ?_⟩
  by_cases q9 : fo s = -9
  · refine FP_eq h hs q9 hp hf.1 ?_ hfo ?_
    · intro m' m0 m1'
      rintro ⟨g, o, eg, k, e3⟩
      have og2 : aOk nS (ALf nM fo) g := by
        intro t t0 t1
        have ot := o t t0 t1
        refine ⟨ot.1, ?_⟩
        by_cases z : F0 t = -9
        · by_cases z2 : t < s ∧ pl t
          · exact Or.inr (k t t0 z2.1 z2.2)
          · exact Or.inl (h.2.2.1 t t0 t1 z z2)
        · rcases ot.2 with r | r
          · exact absurd r z
          · right; rw [h.2.1 t t0 t1 z]; exact r
      have a1 := hA g og2
      rw [e3, eg] at a1
      have a2 := h2 m' ⟨by have := hf.1; omega, Or.inl q9⟩ m1'
      omega
    · refine ⟨fun g hg => m1 g ?_, g1, ?_, by omega⟩
      · intro t t0 t1
        have := hg t t0 t1
        unfold ALf at this ⊢
        rw [hfo t] at this
        by_cases q : t = s
        · exact ⟨this.1, Or.inl (by rw [q]; exact q9)⟩
        · rw [if_neg q] at this; exact this
      · intro t t0 t1
        have := o1 t t0 t1
        unfold ALf at this ⊢
        rw [hfo t]
        by_cases q : t = s
        · rw [if_pos q]
          exact ⟨this.1, Or.inr (by rw [q]; exact e1)⟩
        · rw [if_neg q]; exact this
  · have e : fo' = fo := by
      funext t
      rw [hfo t]
      by_cases q : t = s
      · rw [if_pos q, q]
        rcases hf.2 with r | r
        · exact absurd r q9
        · exact r
      · rw [if_neg q]
    rw [e]
    exact FP_skip h hs (Or.inl q9)
theorem HC_nn {σ : St} (hwf : WfC σ) {fo g : Int → Int} (hg : aOk (σ 1 0) (ALf (σ 16 0) fo) g) : 0 ≤ HC (σ 4 0).toNat (σ 5) (σ 6) (σ 7) (σ 8) (σ 9) (σ 15) g := by
  obtain ⟨n1, n0, n4, n16⟩ := hwf.n
  unfold HC
  refine (smI_bd (c := 518400) (by omega) _ (fun k k0 k1 => ?_)).1
  have ht := hwf.tie (k := k) k0 (by omega)
  have ga := (hg (σ 5 k) ht.1.1 ht.1.2).1
  have gb := (hg (σ 7 k) ht.2.2.1.1 ht.2.2.1.2).1
  have r := (hmF_rng (v := σ 6) (w := σ 8) (er := σ 9) (mk := σ 15) (k := k) (i := g (σ 5 k)) (j := g (σ 7 k)) ht.2.1 ht.2.2.2.1 ht.2.2.2.2.1 (hwf.mk ga.1 ga.2) (hwf.mk gb.1 gb.2)).2
  split
  · split
    · exact r
    · omega
  · omega
