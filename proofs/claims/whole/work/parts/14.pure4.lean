/-! ===== pure: shares spread along kept TIES ===== -/
theorem or_xor {x k : Nat} (h : x.testBit k = false) : x ||| 2 ^ k = x ^^^ 2 ^ k := by
  apply Nat.eq_of_testBit_eq
  intro i
  rw [Nat.testBit_or, Nat.testBit_xor, Nat.testBit_two_pow]
  by_cases e : k = i
  · subst e; simp [h]
  · simp [e]
theorem iOr_bit {x : Int} {k : Nat} (hx : x.toNat.testBit k = false) : iOr x (2 ^ k) = iXor x (2 ^ k) := by
  have e : ((2 : Int) ^ k).toNat = 2 ^ k := by
    have : ((2 : Int) ^ k) = ((2 ^ k : Nat) : Int) := by push_cast; rfl
    rw [this, Int.toNat_natCast]
  unfold iOr iXor
  rw [e, or_xor hx]
theorem two_pow_toNat (k : Nat) : ((2 : Int) ^ k).toNat = 2 ^ k := by
  have : ((2 : Int) ^ k) = ((2 ^ k : Nat) : Int) := by push_cast; rfl
  rw [this, Int.toNat_natCast]
theorem iXor_mid (a b c : Int) : iXor (iXor a b) (iXor b c) = iXor a c := by
  unfold iXor
  simp only [Int.toNat_natCast]
  rw [Nat.xor_assoc, ← Nat.xor_assoc b.toNat b.toNat, Nat.xor_self, Nat.zero_xor]
theorem iShl_1 (k : Nat) : iShl 1 (k : Int) = 2 ^ k := by
  unfold iShl
  rw [Int.toNat_natCast, Int.one_mul]
  push_cast
  rfl
theorem sz7_put {f g : Int → Int} {y : Int} (hy : 0 ≤ y ∧ y < 7) (h0 : ¬ f y = 1) (h1 : g y = 1) (h : ∀ x, 0 ≤ x ∧ x < 7 → x ≠ y → (g x = 1 ↔ f x = 1)) : sz7 g 1 = sz7 f 1 + 1 := by
  unfold sz7
  have e : ∀ x, 0 ≤ x ∧ x < 7 → (if g x = 1 then (1 : Int) else 0) = (if f x = 1 then 1 else 0) + if x = y then 1 else 0 := by
    intro x hx
    by_cases q : x = y
    · subst q
      rw [if_pos h1, if_neg h0, if_pos rfl]
      rfl
    · rw [if_neg q]
      by_cases r : f x = 1
      · rw [if_pos r, if_pos ((h x hx q).mpr r)]
        rfl
      · rw [if_neg r, if_neg (fun z => r ((h x hx q).mp z))]
        rfl
  rw [e 0 (by omega), e 1 (by omega), e 2 (by omega), e 3 (by omega), e 4 (by omega), e 5 (by omega), e 6 (by omega)]
  rcases (show y = 0 ∨ y = 1 ∨ y = 2 ∨ y = 3 ∨ y = 4 ∨ y = 5 ∨ y = 6 by omega) with rfl | rfl | rfl | rfl | rfl | rfl | rfl <;> simp <;> omega
theorem sz7_gap {f : Int → Int} {y : Int} (hy : 0 ≤ y ∧ y < 7) (h0 : ¬ f y = 1) : sz7 f 1 ≤ 6 := by
  unfold sz7
  rcases (show y = 0 ∨ y = 1 ∨ y = 2 ∨ y = 3 ∨ y = 4 ∨ y = 5 ∨ y = 6 by omega) with rfl | rfl | rfl | rfl | rfl | rfl | rfl <;> rw [if_neg h0] <;> (repeat' split) <;> omega
/-- met SECTIONS: whether a share is there -/
def vz (u : St) (x : Int) : Int := if u 7 x = 0 then 0 else 1
theorem vz_1 {u : St} {x : Int} : vz u x = 1 ↔ ¬ u 7 x = 0 := by
  unfold vz
  by_cases h : u 7 x = 0
  · rw [if_pos h]; exact ⟨fun q => by omega, fun q => absurd h q⟩
  · rw [if_neg h]; exact ⟨fun _ => h, fun _ => rfl⟩
section SP
variable (a v b w : Int → Int) (n : Nat) (f : Int) (u : St)
def SPv : Prop := ∀ x, 0 ≤ x ∧ x < 7 → u 7 x = 0 ∨ (jS a v b w n 0 x = jS a v b w n 0 f ∧ u 7 x = pU (jS a v b w n 1 x - jS a v b w n 1 f) (jS a v b w n 2 x - jS a v b w n 2 f) ∧ u 8 x = pU (-(jS a v b w n 1 x - jS a v b w n 1 f)) (-(jS a v b w n 2 x - jS a v b w n 2 f)) ∧ u 9 x = iXor (jS a v b w n 3 f) (jS a v b w n 3 x))
def SPb : Prop := ∀ x, 0 ≤ x ∧ x < 7 → ¬ u 7 x = 0 → ∀ k : Nat, (u 9 x).toNat.testBit k = true → ¬ u 7 (a k) = 0 ∧ ¬ u 7 (b k) = 0
def SPm : Prop := (∀ i, 0 ≤ i → i < u 10 0 → (0 ≤ u 11 i ∧ u 11 i < 7) ∧ ¬ u 7 (u 11 i) = 0) ∧ (∀ i j, 0 ≤ i → i < j → j < u 10 0 → u 11 i ≠ u 11 j) ∧ (∀ x, 0 ≤ x ∧ x < 7 → ¬ u 7 x = 0 → ∃ i, 0 ≤ i ∧ i < u 10 0 ∧ u 11 i = x)
/-- a tree: each one behind the first is tied to one ahead of it -/
def TR (c : Int) (at_ by_ : Int → Int) : Prop := ∀ i, 1 ≤ i → i < c → (0 ≤ by_ i ∧ by_ i < n) ∧ jK a v b w (by_ i).toNat = 0 ∧ ∃ j, (0 ≤ j ∧ j < i) ∧ ((at_ j = a (by_ i) ∧ at_ i = b (by_ i)) ∨ (at_ j = b (by_ i) ∧ at_ i = a (by_ i)))
def SPI : Prop := (1 ≤ u 10 0 ∧ u 10 0 ≤ 7) ∧ SPv a v b w n f u ∧ SPb a b u ∧ sz7 (vz u) 1 = u 10 0 ∧ (u 11 0 = f ∧ ¬ u 7 f = 0) ∧ SPm u ∧ TR a v b w n (u 10 0) (u 11) (u 12)
/-- no kept TIE leaves what is met -/
def SPc (m : Int) : Prop := ∀ k : Nat, (k : Int) < m → jK a v b w k = 0 → (u 7 (a k) = 0 ↔ u 7 (b k) = 0)
variable {a v b w n f u}
theorem SPI_fit (h : SPI a v b w n f u) {y : Int} (hy : 0 ≤ y ∧ y < 7) (h0 : u 7 y = 0) : u 10 0 ≤ 6 := by
  obtain ⟨-, -, -, h4, -⟩ := h
  rw [← h4]
  exact sz7_gap hy (fun q => (vz_1.mp q) h0)
/-- one SECTION more -/
theorem SPI_add {N : Nat} (hN : tOk a v b w N) (hn : n ≤ N) (h : SPI a v b w n f u) (hf : 0 ≤ f ∧ f < 7) {x y v' w' : Int} {k : Nat} (hk : k < n) (hkept : jK a v b w k = 0) (hx : 0 ≤ x ∧ x < 7) (hy : 0 ≤ y ∧ y < 7) (hv' : 0 ≤ v' ∧ v' < 20) (hw' : 0 ≤ w' ∧ w' < 20)
    (hux : ¬ u 7 x = 0) (huy : u 7 y = 0) (hxy : (x = a k ∧ y = b k) ∨ (x = b k ∧ y = a k)) (e0 : jS a v b w n 0 x = jS a v b w n 0 y) (e1 : jS a v b w n 1 y - jS a v b w n 1 x = tw w' - tw v') (e2 : jS a v b w n 2 y - jS a v b w n 2 x = th w' - th v') (e3 : iXor (jS a v b w n 3 x) (jS a v b w n 3 y) = 2 ^ k)
    {u' : St} (hu' : u' = up (up (up (up (up (up u 7 y ((u 7 x * tk w') / gcdI (u 7 x * tk w') (u 8 x * tk v'))) 8 y ((u 8 x * tk v') / gcdI (u 7 x * tk w') (u 8 x * tk v'))) 9 y (iOr (u 9 x) (iShl 1 k))) 11 (u 10 0) y) 12 (u 10 0) k) 10 0 (u 10 0 + 1)) : SPI a v b w n f u' := by
  have hfit := SPI_fit h hy huy
  obtain ⟨h1, h2, h3, h4, ⟨h5, h5'⟩, ⟨h6, h7, h8⟩, h9⟩ := h
  obtain ⟨x0, x1, x2, x3⟩ := (h2 x hx).resolve_left hux
  have tv := tk_rng hv'
  have tww := tk_rng hw'
  have p1 := pU_pos (jS a v b w n 1 x - jS a v b w n 1 f) (jS a v b w n 2 x - jS a v b w n 2 f)
  have p2 := pU_pos (-(jS a v b w n 1 x - jS a v b w n 1 f)) (-(jS a v b w n 2 x - jS a v b w n 2 f))
  have hred := pU_red (u := u 7 x * tk w') (l := u 8 x * tk v') (X := jS a v b w n 1 y - jS a v b w n 1 f) (Y := jS a v b w n 2 y - jS a v b w n 2 f) (Int.mul_nonneg (by omega) (by omega)) (Int.mul_pos (by omega) (by omega)) (by
    have := pU_tie (X := jS a v b w n 1 x - jS a v b w n 1 f) (Y := jS a v b w n 2 x - jS a v b w n 2 f) hv' hw'
    rw [← e1, ← e2, ← x1, ← x2] at this
    rw [show jS a v b w n 1 y - jS a v b w n 1 f = jS a v b w n 1 x - jS a v b w n 1 f + (jS a v b w n 1 y - jS a v b w n 1 x) by omega, show jS a v b w n 2 y - jS a v b w n 2 f = jS a v b w n 2 x - jS a v b w n 2 f + (jS a v b w n 2 y - jS a v b w n 2 x) by omega]
    exact this)
  rw [hred.1, hred.2] at hu'
  have ha : ¬ u 7 (a k) = 0 ∨ a k = y := by rcases hxy with ⟨q, r⟩ | ⟨q, r⟩; · left; rw [← q]; exact hux
                                            · right; exact r.symm
  have hb : ¬ u 7 (b k) = 0 ∨ b k = y := by rcases hxy with ⟨q, r⟩ | ⟨q, r⟩; · right; exact r.symm
                                            · left; rw [← q]; exact hux
  have hbit : (u 9 x).toNat.testBit k = false := by
    cases hq : (u 9 x).toNat.testBit k with
    | false => rfl
    | true =>
      have := h3 x hx hux k hq
      rcases hxy with ⟨q, r⟩ | ⟨q, r⟩
      · exact absurd (by rw [← r]; exact huy) this.2
      · exact absurd (by rw [← r]; exact huy) this.1
  rw [iShl_1, iOr_bit hbit] at hu'
  have q7 : ∀ z, u' 7 z = if z = y then pU (jS a v b w n 1 y - jS a v b w n 1 f) (jS a v b w n 2 y - jS a v b w n 2 f) else u 7 z := fun z => by rw [hu']; exact up_i u 7 y _ z
  have q8 : ∀ z, u' 8 z = if z = y then pU (-(jS a v b w n 1 y - jS a v b w n 1 f)) (-(jS a v b w n 2 y - jS a v b w n 2 f)) else u 8 z := fun z => by rw [hu']; exact up_i u 8 y _ z
  have q9 : ∀ z, u' 9 z = if z = y then iXor (u 9 x) (2 ^ k) else u 9 z := fun z => by rw [hu']; exact up_i u 9 y _ z
  have q11 : ∀ z, u' 11 z = if z = u 10 0 then y else u 11 z := fun z => by rw [hu']; exact up_i u 11 (u 10 0) _ z
  have q12 : ∀ z, u' 12 z = if z = u 10 0 then (k : Int) else u 12 z := fun z => by rw [hu']; exact up_i u 12 (u 10 0) _ z
  have q10 : u' 10 0 = u 10 0 + 1 := by rw [hu']; exact up_s _ 10 0 _
  clear hu'
  have py := pU_pos (jS a v b w n 1 y - jS a v b w n 1 f) (jS a v b w n 2 y - jS a v b w n 2 f)
  have vis : ∀ z, ¬ u' 7 z = 0 ↔ (z = y ∨ ¬ u 7 z = 0) := by
    intro z
    rw [q7]
    by_cases e : z = y
    · rw [if_pos e]; exact ⟨fun _ => Or.inl e, fun _ => by omega⟩
    · rw [if_neg e]; exact ⟨fun q => Or.inr q, fun q => q.resolve_left e⟩
  have nz : ∀ z, ¬ u 7 z = 0 → ¬ u' 7 z = 0 := fun z q => (vis z).mpr (Or.inr q)
  refine ⟨by omega, ?_, ?_, ?_, ⟨?_, nz f h5'⟩, ⟨?_, ?_, ?_⟩, ?_⟩
  · intro z hz
    by_cases e : z = y
    · right
      subst e
      rw [q7, q8, q9, if_pos rfl, if_pos rfl, if_pos rfl]
      refine ⟨by rw [← e0]; exact x0, rfl, rfl, ?_⟩
      rw [x3, ← e3, iXor_mid]
    · rw [q7, q8, q9, if_neg e, if_neg e, if_neg e]
      exact h2 z hz
  · intro z hz hv2 j hj
    rw [q9] at hj
    by_cases e : z = y
    · rw [if_pos e, iXor_toNat, Nat.testBit_xor, two_pow_toNat, Nat.testBit_two_pow] at hj
      by_cases ej : k = j
      · subst ej
        exact ⟨(vis _).mpr (ha.symm.imp id id), (vis _).mpr (hb.symm.imp id id)⟩
      · simp [ej] at hj
        have := h3 x hx hux j hj
        exact ⟨nz _ this.1, nz _ this.2⟩
    · rw [if_neg e] at hj
      have := h3 z hz (((vis z).mp hv2).resolve_left e) j hj
      exact ⟨nz _ this.1, nz _ this.2⟩
  · rw [q10, ← h4]
    refine sz7_put hy (fun q => (vz_1.mp q) huy) (vz_1.mpr ((vis y).mpr (Or.inl rfl))) (fun z hz e => ?_)
    rw [vz_1, vz_1, vis z]
    exact ⟨fun q => q.resolve_left e, fun q => Or.inr q⟩
  · rw [q11, if_neg (by omega)]; exact h5
  · intro i i0 i1
    rw [q10] at i1
    rw [q11]
    by_cases e : i = u 10 0
    · rw [if_pos e]; exact ⟨hy, (vis y).mpr (Or.inl rfl)⟩
    · rw [if_neg e]
      have := h6 i i0 (by omega)
      exact ⟨this.1, nz _ this.2⟩
  · intro i j i0 ij j1
    rw [q10] at j1
    rw [q11, q11, if_neg (show ¬ i = u 10 0 by omega)]
    by_cases e : j = u 10 0
    · rw [if_pos e]
      intro q
      exact (h6 i i0 (by omega)).2 (by rw [q]; exact huy)
    · rw [if_neg e]
      exact h7 i j i0 ij (by omega)
  · intro z hz hv2
    rw [q10]
    rcases (vis z).mp hv2 with e | e
    · exact ⟨u 10 0, by omega, by omega, by rw [q11, if_pos rfl]; exact e.symm⟩
    · obtain ⟨i, i0, i1, i2⟩ := h8 z hz e
      exact ⟨i, i0, by omega, by rw [q11, if_neg (by omega)]; exact i2⟩
  · intro i i1 i2
    rw [q10] at i2
    rw [q12]
    by_cases e : i = u 10 0
    · rw [if_pos e]
      refine ⟨by omega, by rw [Int.toNat_natCast]; exact hkept, ?_⟩
      obtain ⟨j, j0, j1, j2⟩ := h8 x hx hux
      refine ⟨j, ⟨j0, by omega⟩, ?_⟩
      rw [q11, q11, if_neg (show ¬ j = u 10 0 by omega), if_pos e, j2]
      exact hxy
    · rw [if_neg e]
      obtain ⟨g1, g2, j, g3, g4⟩ := h9 i i1 (by omega)
      refine ⟨g1, g2, j, g3, ?_⟩
      rw [q11, q11, if_neg (show ¬ j = u 10 0 by omega), if_neg e]
      exact g4
/-- at the end: just what is joined is met -/
theorem SP_met (h : SPI a v b w n f u) (hc : SPc a v b w u n) {x : Int} (hx : 0 ≤ x ∧ x < 7) : ¬ u 7 x = 0 ↔ jS a v b w n 0 x = jS a v b w n 0 f := by
  obtain ⟨h1, h2, h3, h4, ⟨h5, h5'⟩, -⟩ := h
  constructor
  · intro q; exact ((h2 x hx).resolve_left q).1
  · intro q
    have := jS_close (a := a) (v := v) (b := b) (w := w) (fun z => ¬ u 7 z = 0) n (fun k hk hk0 => by rw [hc k (by omega) hk0]) x f q
    exact this.mpr h5'
end SP
