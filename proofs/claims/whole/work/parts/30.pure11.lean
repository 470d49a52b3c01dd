/-! ===== pure: pivots ===== -/
def ins (set v : Int) : Prop := set.toNat.testBit v.toNat = true
theorem isOf_iff {set v w : Int} (hs : 0 ≤ set) : iAnd (iAnd (iShr set v) (iShr set w)) 1 = 1 ↔ ins set v ∧ ins set w := by
  have e : ∀ k : Int, (iShr set k).toNat = set.toNat / 2 ^ k.toNat := by
    intro k
    obtain ⟨n, rfl⟩ : ∃ n : Nat, set = n := ⟨set.toNat, by omega⟩
    unfold iShr
    rw [← Int.natCast_ediv, Int.toNat_natCast, Int.toNat_natCast]
  have h1 : (iAnd (iAnd (iShr set v) (iShr set w)) 1) = ((((set.toNat / 2 ^ v.toNat) &&& (set.toNat / 2 ^ w.toNat)) % 2 : Nat) : Int) := by
    unfold iAnd
    rw [e v, e w, Int.toNat_natCast, show (1 : Int).toNat = 1 from rfl, Nat.and_one_is_mod]
  rw [h1]
  unfold ins
  have z1 : set.toNat.testBit v.toNat = (set.toNat / 2 ^ v.toNat).testBit 0 := by rw [Nat.testBit_div_two_pow, Nat.zero_add]
  have z2 : set.toNat.testBit w.toNat = (set.toNat / 2 ^ w.toNat).testBit 0 := by rw [Nat.testBit_div_two_pow, Nat.zero_add]
  rw [z1, z2]
  generalize set.toNat / 2 ^ v.toNat = A
  generalize set.toNat / 2 ^ w.toNat = C
  have h2 : ((A &&& C) % 2 = 1) ↔ (A &&& C).testBit 0 = true := by rw [Nat.testBit_zero]; simp
  rw [show (((A &&& C) % 2 : Nat) : Int) = 1 ↔ (A &&& C) % 2 = 1 by omega, h2, Nat.testBit_and]
  simp
def dX (c : Int) : Int := tw (c % 20) - tw (c / 20)
def dY (c : Int) : Int := th (c % 20) - th (c / 20)
def stp (set c : Int) : Prop := ins set (c / 20) ∧ ins set (c % 20)
theorem dXY_rng {c : Int} (h : 0 ≤ c ∧ c < 400) : (-6 ≤ dX c ∧ dX c ≤ 6) ∧ (-2 ≤ dY c ∧ dY c ≤ 2) := by
  have a := tw_rng (v := c / 20) (by omega)
  have b := tw_rng (v := c % 20) (by omega)
  unfold dX dY
  omega
section RC
variable (p set X Y : Int)
/-- what is come to in so many steps, at most -/
def rch : Nat → Int → Int → Prop
  | 0 => fun x y => x = X ∧ y = Y
  | n + 1 => fun x y => rch n x y ∨ (inB p x y ∧ ∃ c, (0 ≤ c ∧ c < 400) ∧ stp set c ∧ rch n (x - dX c) (y - dY c))
def lv (e : Nat) (x y : Int) : Prop := rch p set X Y e x y ∧ ∀ d, d < e → ¬ rch p set X Y d x y
/-- the first PIVOT by which one is a step nearer -/
def gdC (d : Nat) (x y c : Int) : Prop := stp set c ∧ inB p (x + dX c) (y + dY c) ∧ lv p set X Y (d - 1) (x + dX c) (y + dY c)
def fsC (d : Nat) (x y c : Int) : Prop := (0 ≤ c ∧ c < 400) ∧ gdC p set X Y d x y c ∧ ∀ c', 0 ≤ c' → c' < c → ¬ gdC p set X Y d x y c'
/-- PIVOT k of the row, from a TEMPO d steps off -/
def RWk : Nat → Nat → Int → Int → Int → Prop
  | 0 => fun d x y rv => ∃ c, fsC p set X Y d x y c ∧ rv = 100 * (c / 20) + c % 20
  | k + 1 => fun d x y rv => ∃ c, fsC p set X Y d x y c ∧ RWk k (d - 1) (x + dX c) (y + dY c) rv
variable {p set X Y}
theorem rch_mono {n m : Nat} (h : n ≤ m) {x y : Int} (hr : rch p set X Y n x y) : rch p set X Y m x y := by
  obtain ⟨d, rfl⟩ : ∃ d, m = n + d := ⟨m - n, by omega⟩
  induction d with
  | zero => exact hr
  | succ d ih => exact Or.inl (ih (by omega))
theorem rch_in (hT : inB p X Y) : ∀ (n : Nat) (x y : Int), rch p set X Y n x y → inB p x y := by
  intro n
  induction n with
  | zero => rintro x y ⟨rfl, rfl⟩; exact hT
  | succ n ih => intro x y h; exact h.elim (ih x y) (fun q => q.1)
theorem rch_step {n : Nat} {x y c : Int} (hc : 0 ≤ c ∧ c < 400) (hs : stp set c) (h : rch p set X Y n x y) (hb : inB p (x + dX c) (y + dY c)) : rch p set X Y (n + 1) (x + dX c) (y + dY c) :=
  Or.inr ⟨hb, c, hc, hs, by rw [show x + dX c - dX c = x by omega, show y + dY c - dY c = y by omega]; exact h⟩
theorem lv_one {e d : Nat} {x y : Int} (h1 : lv p set X Y e x y) (h2 : lv p set X Y d x y) : e = d := by
  rcases Nat.lt_trichotomy e d with q | q | q
  · exact absurd h1.1 (h2.2 e q)
  · exact q
  · exact absurd h2.1 (h1.2 d q)
theorem rch_lv {n : Nat} {x y : Int} (h : rch p set X Y n x y) : ∃ e, e ≤ n ∧ lv p set X Y e x y := by
  induction n with
  | zero => exact ⟨0, Nat.le_refl _, h, fun d hd => by omega⟩
  | succ n ih =>
    by_cases q : rch p set X Y n x y
    · obtain ⟨e, h1, h2⟩ := ih q
      exact ⟨e, by omega, h2⟩
    · exact ⟨n + 1, Nat.le_refl _, h, fun d hd z => q (rch_mono (by omega) z)⟩
/-- from a TEMPO that is d + 1 steps off a PIVOT leads to one that is d steps off -/
theorem lv_next (hT : inB p X Y) {d : Nat} {x y : Int} (h : lv p set X Y (d + 1) x y) : ∃ c, (0 ≤ c ∧ c < 400) ∧ gdC p set X Y (d + 1) x y c := by
  obtain ⟨h1, h2⟩ := h
  rcases h1 with q | ⟨hb, c, hc, hs, hr⟩
  · exact absurd q (h2 d (by omega))
  · have ec : (20 * (c % 20) + c / 20) / 20 = c % 20 ∧ (20 * (c % 20) + c / 20) % 20 = c / 20 := by omega
    have e1 : x + dX (20 * (c % 20) + c / 20) = x - dX c := by unfold dX; rw [ec.1, ec.2]; omega
    have e2 : y + dY (20 * (c % 20) + c / 20) = y - dY c := by unfold dY; rw [ec.1, ec.2]; omega
    refine ⟨20 * (c % 20) + c / 20, by omega, ⟨by rw [ec.1]; exact hs.2, by rw [ec.2]; exact hs.1⟩, ?_, ?_⟩
    · rw [e1, e2]; exact rch_in hT d _ _ hr
    · rw [e1, e2]
      refine ⟨hr, fun e he z => ?_⟩
      have := rch_step hc hs z (by rw [show x - dX c + dX c = x by omega, show y - dY c + dY c = y by omega]; exact hb)
      rw [show x - dX c + dX c = x by omega, show y - dY c + dY c = y by omega] at this
      exact h2 (e + 1) (by omega) this
theorem fsC_one {d : Nat} {x y c c' : Int} (h1 : fsC p set X Y d x y c) (h2 : fsC p set X Y d x y c') : c = c' := by
  obtain ⟨a1, a2, a3⟩ := h1
  obtain ⟨b1, b2, b3⟩ := h2
  by_cases q : c < c'
  · exact absurd a2 (b3 c a1.1 q)
  · by_cases q2 : c' < c
    · exact absurd b2 (a3 c' b1.1 q2)
    · omega
theorem RWk_one : ∀ (k d : Nat) (x y r1 r2 : Int), RWk p set X Y k d x y r1 → RWk p set X Y k d x y r2 → r1 = r2 := by
  intro k
  induction k with
  | zero =>
    rintro d x y r1 r2 ⟨c, h1, h2⟩ ⟨c', h3, h4⟩
    have := fsC_one h1 h3
    subst this
    omega
  | succ k ih =>
    rintro d x y r1 r2 ⟨c, h1, h2⟩ ⟨c', h3, h4⟩
    have := fsC_one h1 h3
    subst this
    exact ih _ _ _ _ _ h2 h4
end RC
/-- from p to q: the exponents -/
def TG (p q X Y : Int) : Prop := q * pU (-X) (-Y) = p * pU X Y
theorem pU_2 (X Y : Int) : (2 : Int) ^ X.toNat ≤ pU X Y ∧ (3 : Int) ^ Y.toNat ≤ pU X Y := by
  have a := (pow_le2 (n := X.toNat) (k := X.toNat) (Nat.le_refl _)).1
  have b := (pow_le3 (n := Y.toNat) (k := Y.toNat) (Nat.le_refl _)).1
  unfold pU
  have h1 : (2 : Int) ^ X.toNat * 1 ≤ 2 ^ X.toNat * 3 ^ Y.toNat := Int.mul_le_mul_of_nonneg_left b (by omega)
  have h2 : 1 * (3 : Int) ^ Y.toNat ≤ 2 ^ X.toNat * 3 ^ Y.toNat := Int.mul_le_mul_of_nonneg_right a (by omega)
  omega
theorem TG_red {p q X Y : Int} (hp : 20 ≤ p ∧ p ≤ 400) (hq : 20 ≤ q ∧ q ≤ 400) (h : TG p q X Y) : q / gcdI p q = pU X Y ∧ p / gcdI p q = pU (-X) (-Y) := by
  have := pU_red (u := q) (l := p) (X := X) (Y := Y) (by omega) (by omega) h
  have e : gcdI q p = gcdI p q := by unfold gcdI; rw [Nat.gcd_comm]
  rw [e] at this
  exact this
theorem TG_rng {p q X Y : Int} (hp : 20 ≤ p ∧ p ≤ 400) (hq : 20 ≤ q ∧ q ≤ 400) (h : TG p q X Y) : (-8 ≤ X ∧ X ≤ 8) ∧ (-5 ≤ Y ∧ Y ≤ 5) ∧ inB p X Y := by
  obtain ⟨h1, h2⟩ := TG_red hp hq h
  have g := gcdI_pos (a := p) (b := q) (by omega)
  have l1 : q / gcdI p q ≤ q := Int.ediv_le_self _ (by omega)
  have l2 : p / gcdI p q ≤ p := Int.ediv_le_self _ (by omega)
  have b1 := pU_2 X Y
  have b2 := pU_2 (-X) (-Y)
  have k2 : ∀ n : Nat, 9 ≤ n → (400 : Int) < 2 ^ n := fun n hn => by
    have := (pow_le2 (n := 9) (k := n) hn).2
    have e : (2 : Int) ^ 9 = 512 := by decide
    omega
  have k3 : ∀ n : Nat, 6 ≤ n → (400 : Int) < 3 ^ n := fun n hn => by
    have := (pow_le3 (n := 6) (k := n) hn).2
    have e : (3 : Int) ^ 6 = 729 := by decide
    omega
  have x1 : X.toNat < 9 := by
    by_cases q9 : 9 ≤ X.toNat
    · have := k2 _ q9; omega
    · omega
  have x2 : (-X).toNat < 9 := by
    by_cases q9 : 9 ≤ (-X).toNat
    · have := k2 _ q9; omega
    · omega
  have y1 : Y.toNat < 6 := by
    by_cases q9 : 6 ≤ Y.toNat
    · have := k3 _ q9; omega
    · omega
  have y2 : (-Y).toNat < 6 := by
    by_cases q9 : 6 ≤ (-Y).toNat
    · have := k3 _ q9; omega
    · omega
  have p2 := pU_pos (-X) (-Y)
  refine ⟨by omega, by omega, by omega, by omega, ?_, ?_⟩
  · rw [Int.mul_assoc]
    show 20 * pU (-X) (-Y) ≤ p * pU X Y
    rw [← h]
    exact Int.mul_le_mul_of_nonneg_right hq.1 (by omega)
  · rw [Int.mul_assoc]
    show p * pU X Y ≤ 400 * pU (-X) (-Y)
    rw [← h]
    exact Int.mul_le_mul_of_nonneg_right hq.2 (by omega)
theorem TG_one {p q X Y X' Y' : Int} (hp : 20 ≤ p ∧ p ≤ 400) (hq : 20 ≤ q ∧ q ≤ 400) (h : TG p q X Y) (h' : TG p q X' Y') : X = X' ∧ Y = Y' := by
  obtain ⟨a1, a2⟩ := TG_red hp hq h
  obtain ⟨b1, b2⟩ := TG_red hp hq h'
  have e1 : pN X Y = pN X' Y' := by have := a1.symm.trans b1; rw [pU_N, pU_N] at this; exact Int.ofNat.inj this
  have e2 : pN (-X) (-Y) = pN (-X') (-Y') := by have := a2.symm.trans b2; rw [pU_N, pU_N] at this; exact Int.ofNat.inj this
  have f1 := pw23 e1
  have f2 := pw23 e2
  omega
def fPivots (p q set k rv : Int) : Prop := (¬ ((20 ≤ p ∧ p ≤ 400) ∧ (20 ≤ q ∧ q ≤ 400) ∧ (0 ≤ set ∧ set ≤ 1048575) ∧ (-1 ≤ k ∧ k ≤ 4)) ∧ rv = -2) ∨ (((20 ≤ p ∧ p ≤ 400) ∧ (20 ≤ q ∧ q ≤ 400) ∧ (0 ≤ set ∧ set ≤ 1048575) ∧ (-1 ≤ k ∧ k ≤ 4)) ∧ ((∀ X Y, TG p q X Y → ¬ rch p set X Y 5 0 0) ∧ rv = -9)) ∨ (((20 ≤ p ∧ p ≤ 400) ∧ (20 ≤ q ∧ q ≤ 400) ∧ (0 ≤ set ∧ set ≤ 1048575) ∧ (-1 ≤ k ∧ k ≤ 4)) ∧ ∃ X Y, TG p q X Y ∧ ∃ d : Nat, d ≤ 5 ∧ lv p set X Y d 0 0 ∧ ((k = -1 ∧ rv = d) ∨ (((d : Int) ≤ k) ∧ rv = -9) ∨ ((0 ≤ k ∧ k < d) ∧ RWk p set X Y k.toNat d 0 0 rv)))
theorem fPivots_one {p q set k r1 r2 : Int} (h1 : fPivots p q set k r1) (h2 : fPivots p q set k r2) : r1 = r2 := by
  rcases h1 with ⟨a1, a2⟩ | ⟨a0, a1, a2⟩ | ⟨a0, X, Y, aT, d, ad, al, ac⟩ <;> rcases h2 with ⟨b1, b2⟩ | ⟨b0, b1, b2⟩ | ⟨b0, X', Y', bT, d', bd, bl, bc⟩
  · omega
  · exact absurd b0 a1
  · exact absurd b0 a1
  · exact absurd a0 b1
  · omega
  · exact absurd (rch_mono bd bl.1) (a1 X' Y' bT)
  · exact absurd a0 b1
  · exact absurd (rch_mono ad al.1) (b1 X Y aT)
  · obtain ⟨rfl, rfl⟩ := TG_one a0.1 a0.2.1 aT bT
    have := lv_one al bl
    subst this
    rcases ac with ⟨c1, c2⟩ | ⟨c1, c2⟩ | ⟨c1, c2⟩ <;> rcases bc with ⟨d1, d2⟩ | ⟨d1, d2⟩ | ⟨d1, d2⟩
    · omega
    · omega
    · omega
    · omega
    · omega
    · omega
    · omega
    · omega
    · exact RWk_one _ _ _ _ _ _ c2 d2
/-! the reference's table of levels -/
def sIx (x y : Int) : Int := 21 * (x + 30) + y + 10
def LVS (p set X Y : Int) (u : St) (n : Nat) : Prop := ∀ x y : Int, (-30 ≤ x ∧ x ≤ 30) → (-10 ≤ y ∧ y ≤ 10) → (u 17 (sIx x y) = -9 ∧ ¬ rch p set X Y n x y) ∨ (∃ e : Nat, e ≤ n ∧ u 17 (sIx x y) = e ∧ lv p set X Y e x y)
theorem LVS_is {p set X Y : Int} {u : St} {n e : Nat} (h : LVS p set X Y u n) {x y : Int} (hx : -30 ≤ x ∧ x ≤ 30) (hy : -10 ≤ y ∧ y ≤ 10) (he : e ≤ n) : u 17 (sIx x y) = e ↔ lv p set X Y e x y := by
  rcases h x y hx hy with ⟨q1, q2⟩ | ⟨d, d1, d2, d3⟩
  · constructor
    · intro z; omega
    · intro z; exact absurd (rch_mono he z.1) q2
  · constructor
    · intro z
      have : d = e := by omega
      rw [← this]; exact d3
    · intro z
      rw [d2, lv_one d3 z]
theorem LVS_0 {p set X Y : Int} {u u1 : St} (hX : -8 ≤ X ∧ X ≤ 8) (hY : -5 ≤ Y ∧ Y ≤ 5) (h : ∀ i, 0 ≤ i → i < 1281 → u1 17 i = -9) (hu : u = up u1 17 (sIx X Y) 0) : LVS p set X Y u 0 := by
  intro x y hx hy
  have e : u 17 (sIx x y) = if sIx x y = sIx X Y then 0 else u1 17 (sIx x y) := by rw [hu]; exact up_i _ _ _ _ _
  by_cases q : sIx x y = sIx X Y
  · right
    refine ⟨0, Nat.le_refl _, by rw [e, if_pos q]; rfl, ⟨?_, fun d hd => by omega⟩⟩
    unfold sIx at q
    show x = X ∧ y = Y
    omega
  · left
    refine ⟨by rw [e, if_neg q]; exact h _ (by unfold sIx; omega) (by unfold sIx; omega), ?_⟩
    rintro ⟨rfl, rfl⟩
    exact q rfl
/-- a round: all that is one step more -/
def SM1 (p set st : Int) (σ u : St) : Prop := ∀ i, 0 ≤ i → i < 1281 → u 17 i = σ 17 i ∨ (σ 17 i = -9 ∧ u 17 i = st + 1 ∧ inB p (i / 21 - 30) (i % 21 - 10) ∧ ∃ j c, (0 ≤ j ∧ j < 1281) ∧ (0 ≤ c ∧ c < 400) ∧ stp set c ∧ σ 17 j = st ∧ i / 21 - 30 = j / 21 - 30 + dX c ∧ i % 21 - 10 = j % 21 - 10 + dY c)
def SM2 (p set st : Int) (σ u : St) (x y : Int) : Prop := ∀ j c, 0 ≤ j → j < 1281 → 0 ≤ c → c < 400 → (j < x ∨ (j = x ∧ c < y)) → σ 17 j = st → stp set c → inB p (j / 21 - 30 + dX c) (j % 21 - 10 + dY c) → ¬ u 17 (sIx (j / 21 - 30 + dX c) (j % 21 - 10 + dY c)) = -9
theorem SM_end {p set X Y : Int} {n : Nat} {σ u : St} (hT : inB p X Y) (h : LVS p set X Y σ n) (h1 : SM1 p set n σ u) (h2 : SM2 p set n σ u 1281 0) : LVS p set X Y u (n + 1) := by
  intro x y hx hy
  have ix : (sIx x y) / 21 - 30 = x ∧ (sIx x y) % 21 - 10 = y ∧ 0 ≤ sIx x y ∧ sIx x y < 1281 := by unfold sIx; omega
  have at_ : ∀ j : Int, 0 ≤ j → j < 1281 → sIx (j / 21 - 30) (j % 21 - 10) = j := by intro j j0 j1; unfold sIx; omega
  rcases h1 (sIx x y) ix.2.2.1 ix.2.2.2 with q | ⟨q1, q2, q3, j, c, hj, hc, hs, hj2, e1, e2⟩
  · rcases h x y hx hy with ⟨r1, r2⟩ | ⟨e, he, r1, r2⟩
    · left
      refine ⟨by rw [q]; exact r1, ?_⟩
      rintro (z | ⟨hb, c, hc, hs, hr⟩)
      · exact r2 z
      · have hin := rch_in hT n _ _ hr
        have rg : (-30 ≤ x - dX c ∧ x - dX c ≤ 30) ∧ (-10 ≤ y - dY c ∧ y - dY c ≤ 10) := ⟨hin.1, hin.2.1⟩
        have jx : (sIx (x - dX c) (y - dY c)) / 21 - 30 = x - dX c ∧ (sIx (x - dX c) (y - dY c)) % 21 - 10 = y - dY c ∧ 0 ≤ sIx (x - dX c) (y - dY c) ∧ sIx (x - dX c) (y - dY c) < 1281 := by unfold sIx; omega
        have hl : σ 17 (sIx (x - dX c) (y - dY c)) = n := by
          rcases h _ _ rg.1 rg.2 with ⟨-, z⟩ | ⟨e, he, z1, z2⟩
          · exact absurd hr z
          · by_cases en : e = n
            · rw [z1, en]
            · have := rch_step hc hs z2.1 (by rw [show x - dX c + dX c = x by omega, show y - dY c + dY c = y by omega]; exact hb)
              rw [show x - dX c + dX c = x by omega, show y - dY c + dY c = y by omega] at this
              exact absurd (rch_mono (by omega) this) r2
        have := h2 (sIx (x - dX c) (y - dY c)) c jx.2.2.1 jx.2.2.2 hc.1 hc.2 (Or.inl jx.2.2.2) hl hs (by rw [jx.1, jx.2.1, show x - dX c + dX c = x by omega, show y - dY c + dY c = y by omega]; exact hb)
        rw [jx.1, jx.2.1, show x - dX c + dX c = x by omega, show y - dY c + dY c = y by omega, q] at this
        exact this r1
    · right
      exact ⟨e, by omega, by rw [q]; exact r1, r2⟩
  · right
    rw [ix.1] at q3 e1
    rw [ix.2.1] at q3 e2
    have hl : lv p set X Y n (j / 21 - 30) (j % 21 - 10) := (LVS_is h (by omega) (by omega) (Nat.le_refl n)).mp (by rw [at_ j hj.1 hj.2]; exact hj2)
    have nr : ¬ rch p set X Y n x y := by
      rcases h x y hx hy with ⟨-, z⟩ | ⟨e, he, z1, z2⟩
      · exact z
      · omega
    refine ⟨n + 1, Nat.le_refl _, by rw [q2]; rfl, ⟨?_, fun d hd z => nr (rch_mono (by omega) z)⟩⟩
    have := rch_step hc hs hl.1 (by rw [← e1, ← e2]; exact q3)
    rw [← e1, ← e2] at this
    exact this
