/-! ===== pure: shares ===== -/
/-- 2 to the X and 3 to the Y, as far as they are above 0 -/
def pU (X Y : Int) : Int := 2 ^ X.toNat * 3 ^ Y.toNat
def pN (X Y : Int) : Nat := 2 ^ X.toNat * 3 ^ Y.toNat
theorem pU_N (X Y : Int) : pU X Y = ((pN X Y : Nat) : Int) := by unfold pU pN; push_cast; rfl
theorem pN_pos (X Y : Int) : 0 < pN X Y := Nat.mul_pos (Nat.pow_pos (by omega)) (Nat.pow_pos (by omega))
theorem pU_pos (X Y : Int) : 1 ≤ pU X Y := by have := pN_pos X Y; rw [pU_N]; omega
theorem pU_bd {X Y : Int} (h1 : X + Y ≤ 24) (h2 : -12 ≤ Y ∧ Y ≤ 12) : pU X Y ≤ 68719476736 := by
  have key : ∀ y : Nat, y ≤ 12 → (3 : Nat) ^ y ≤ 2 ^ (2 * y) := by decide
  have h3 := key Y.toNat (by omega)
  have h4 : (2 : Nat) ^ X.toNat * 3 ^ Y.toNat ≤ 2 ^ X.toNat * 2 ^ (2 * Y.toNat) := Nat.mul_le_mul_left _ h3
  have key2 : ∀ y : Nat, y ≤ 12 → (3 : Nat) ^ y ≤ 2 ^ 36 := by decide
  have h5 := key2 Y.toNat (by omega)
  rw [pU_N]
  have : pN X Y ≤ 68719476736 := by
    unfold pN
    by_cases hx : X ≤ 0
    · have e : X.toNat = 0 := by omega
      rw [e, Nat.pow_zero, Nat.one_mul]
      exact Nat.le_trans h5 (by decide)
    · refine Nat.le_trans h4 ?_
      rw [← Nat.pow_add]
      exact Nat.le_trans (Nat.pow_le_pow_right (by omega) (show X.toNat + 2 * Y.toNat ≤ 36 by omega)) (by decide)
  omega
theorem pN_cop (X Y : Int) : Nat.Coprime (pN X Y) (pN (-X) (-Y)) := by
  unfold pN
  have h23 : ∀ m n : Nat, Nat.Coprime (2 ^ m) (3 ^ n) := fun m n => Nat.Coprime.pow m n (by decide)
  refine Nat.Coprime.mul_left (Nat.Coprime.mul_right ?_ (h23 _ _)) (Nat.Coprime.mul_right (h23 _ _).symm ?_)
  · by_cases h : X ≤ 0
    · rw [show X.toNat = 0 by omega]; exact Nat.coprime_one_left _
    · rw [show (-X).toNat = 0 by omega]; exact Nat.coprime_one_right _
  · by_cases h : Y ≤ 0
    · rw [show Y.toNat = 0 by omega]; exact Nat.coprime_one_left _
    · rw [show (-Y).toNat = 0 by omega]; exact Nat.coprime_one_right _
/-- a share reduced -/
theorem red_N {u l U L : Nat} (hu : 0 < U) (hL : 0 < L) (hl : 0 < l) (hc : Nat.Coprime U L) (e : u * L = l * U) : u / Nat.gcd u l = U ∧ l / Nat.gcd u l = L ∧ u = U * Nat.gcd u l ∧ l = L * Nat.gcd u l := by
  have h1 : U ∣ u := hc.dvd_of_dvd_mul_right (by rw [e]; exact Nat.dvd_mul_left _ _)
  obtain ⟨k, rfl⟩ := h1
  have h2 : l = L * k := by
    have : U * (k * L) = U * l := by rw [← Nat.mul_assoc, e, Nat.mul_comm]
    have := Nat.eq_of_mul_eq_mul_left hu this
    rw [← this, Nat.mul_comm]
  subst h2
  have hk : 0 < k := Nat.pos_of_mul_pos_left hl
  have hg : Nat.gcd (U * k) (L * k) = k := by rw [Nat.gcd_mul_right, hc.gcd_eq_one, Nat.one_mul]
  rw [hg]
  exact ⟨Nat.mul_div_cancel _ hk, Nat.mul_div_cancel _ hk, rfl, rfl⟩
theorem red_I {u l U L : Int} (hu0 : 0 ≤ u) (hu : 0 < U) (hL : 0 < L) (hl : 0 < l) (hc : Nat.Coprime U.toNat L.toNat) (e : u * L = l * U) : u / gcdI u l = U ∧ l / gcdI u l = L ∧ u = U * gcdI u l ∧ l = L * gcdI u l := by
  obtain ⟨u, rfl⟩ : ∃ n : Nat, u = n := ⟨u.toNat, by omega⟩
  obtain ⟨l, rfl⟩ : ∃ n : Nat, l = n := ⟨l.toNat, by omega⟩
  obtain ⟨U, rfl⟩ : ∃ n : Nat, U = n := ⟨U.toNat, by omega⟩
  obtain ⟨L, rfl⟩ : ∃ n : Nat, L = n := ⟨L.toNat, by omega⟩
  simp only [Int.toNat_natCast] at hc
  have e' : u * L = l * U := by exact_mod_cast e
  obtain ⟨r1, r2, r3, r4⟩ := red_N (by omega) (by omega) (by omega) hc e'
  unfold gcdI
  simp only [Int.toNat_natCast]
  refine ⟨?_, ?_, ?_, ?_⟩
  · rw [← Int.natCast_ediv, r1]
  · rw [← Int.natCast_ediv, r2]
  · exact_mod_cast r3
  · exact_mod_cast r4
theorem pU_red {u l X Y : Int} (hu0 : 0 ≤ u) (hl : 0 < l) (e : u * pU (-X) (-Y) = l * pU X Y) : u / gcdI u l = pU X Y ∧ l / gcdI u l = pU (-X) (-Y) := by
  have h1 := pU_pos X Y
  have h2 := pU_pos (-X) (-Y)
  have hc : Nat.Coprime (pU X Y).toNat (pU (-X) (-Y)).toNat := by
    rw [pU_N, pU_N]; exact pN_cop X Y
  obtain ⟨r1, r2, -, -⟩ := red_I hu0 (by omega) (by omega) hl hc e
  exact ⟨r1, r2⟩
/-- along a TIE -/
theorem pU_tie {X Y v w : Int} (hv : 0 ≤ v ∧ v < 20) (hw : 0 ≤ w ∧ w < 20) : (pU X Y * tk w) * pU (-(X + (tw w - tw v))) (-(Y + (th w - th v))) = (pU (-X) (-Y) * tk v) * pU (X + (tw w - tw v)) (Y + (th w - th v)) := by
  obtain ⟨a1, a2, -, a4⟩ := tw_rng hv
  obtain ⟨b1, b2, -, b4⟩ := tw_rng hw
  rw [a4, b4]
  unfold pU
  have e2 : X.toNat + (tw w).toNat + (-(X + (tw w - tw v))).toNat = (-X).toNat + (tw v).toNat + (X + (tw w - tw v)).toNat := by omega
  have e3 : Y.toNat + (th w).toNat + (-(Y + (th w - th v))).toNat = (-Y).toNat + (th v).toNat + (Y + (th w - th v)).toNat := by omega
  have l : ∀ p q r s t u : Nat, ((2 : Int) ^ p * 3 ^ q * (2 ^ r * 3 ^ s)) * (2 ^ t * 3 ^ u) = 2 ^ (p + r + t) * 3 ^ (q + s + u) := by
    intro p q r s t u
    rw [Int.pow_add, Int.pow_add, Int.pow_add, Int.pow_add]
    simp only [Int.mul_assoc, Int.mul_left_comm, Int.mul_comm]
  rw [l, l, e2, e3]
