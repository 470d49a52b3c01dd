/-! ===== pure: greatest common divisors, how often a factor is in a number, bits ===== -/
def gcdI (a b : Int) : Int := ((Nat.gcd a.toNat b.toNat : Nat) : Int)
theorem gcdI_zero {a : Int} (h : 0 ≤ a) : gcdI a 0 = a := by
  unfold gcdI
  simp only [Int.toNat_zero, Nat.gcd_zero_right]
  omega
theorem gcdI_step {x y : Int} (hx : 0 ≤ x) (hy : 0 < y) : gcdI y (x % y) = gcdI x y := by
  unfold gcdI
  have e1 : (x % y).toNat = x.toNat % y.toNat := by
    obtain ⟨a, rfl⟩ : ∃ a : Nat, x = a := ⟨x.toNat, by omega⟩
    obtain ⟨b, rfl⟩ : ∃ b : Nat, y = b := ⟨y.toNat, by omega⟩
    simp [← Int.natCast_emod]
  rw [e1, Nat.gcd_comm y.toNat, Nat.gcd_comm x.toNat, Nat.gcd_rec y.toNat x.toNat]
theorem gcdI_pos {a b : Int} (h : 0 < b) : 0 < gcdI a b := by
  unfold gcdI
  have : 0 < Nat.gcd a.toNat b.toNat := Nat.gcd_pos_of_pos_right _ (by omega)
  omega
theorem gcdI_le {a b : Int} (h : 0 < b) : gcdI a b ≤ b := by
  unfold gcdI
  have : Nat.gcd a.toNat b.toNat ≤ b.toNat := Nat.gcd_le_right _ (by omega)
  omega
def tinN (b : Nat) : Nat → Nat → Nat
  | 0, _ => 0
  | f + 1, v => if v % b = 0 then tinN b f (v / b) + 1 else 0
def tin (b v : Int) : Int := ((tinN b.toNat v.toNat v.toNat : Nat) : Int)
theorem tinN_fuel {b : Nat} (hb : 2 ≤ b) : ∀ (f v : Nat), 1 ≤ v → v ≤ f → ∀ g, v ≤ g → tinN b f v = tinN b g v := by
  intro f
  induction f with
  | zero => intro v h1 h2; omega
  | succ f ih =>
    intro v h1 h2 g h3
    cases g with
    | zero => omega
    | succ g =>
      unfold tinN
      by_cases hm : v % b = 0
      · rw [if_pos hm, if_pos hm]
        have h4 : v / b < v := Nat.div_lt_self (by omega) (by omega)
        have h5 : 1 ≤ v / b := by
          rcases Nat.eq_zero_or_pos (v / b) with q | q
          · have := Nat.div_add_mod v b
            rw [q, hm] at this
            omega
          · exact q
        rw [ih (v / b) h5 (by omega) g (by omega)]
      · rw [if_neg hm, if_neg hm]
theorem tin_no {b v : Int} (h : 1 ≤ v) (hm : ¬ v % b = 0) : tin b v = 0 ∨ b < 0 := by
  by_cases hb : b < 0
  · exact Or.inr hb
  left
  obtain ⟨n, rfl⟩ : ∃ n : Nat, v = n := ⟨v.toNat, by omega⟩
  obtain ⟨k, rfl⟩ : ∃ k : Nat, b = k := ⟨b.toNat, by omega⟩
  have h2 : ¬ n % k = 0 := by omega
  unfold tin
  simp only [Int.toNat_natCast]
  cases n with
  | zero => omega
  | succ n =>
    unfold tinN
    rw [if_neg h2]
    rfl
theorem tin_dv {b v : Int} (h : 1 ≤ v) (hb : 2 ≤ b) (hm : v % b = 0) : 1 ≤ v / b ∧ tin b v = tin b (v / b) + 1 ∧ v / b < v := by
  obtain ⟨a, rfl⟩ : ∃ n : Nat, v = n := ⟨v.toNat, by omega⟩
  obtain ⟨k, rfl⟩ : ∃ k : Nat, b = k := ⟨b.toNat, by omega⟩
  have h2 : a % k = 0 := by omega
  have h4 : a / k < a := Nat.div_lt_self (by omega) (by omega)
  have h5 : 1 ≤ a / k := by
    rcases Nat.eq_zero_or_pos (a / k) with q | q
    · have := Nat.div_add_mod a k
      rw [q, h2] at this
      omega
    · exact q
  have e1 : (a : Int) / (k : Int) = ((a / k : Nat) : Int) := (Int.natCast_ediv a k).symm
  rw [e1]
  refine ⟨by omega, ?_, by omega⟩
  unfold tin
  simp only [Int.toNat_natCast]
  cases a with
  | zero => omega
  | succ a =>
    have e2 : tinN k (a + 1) (a + 1) = tinN k a ((a + 1) / k) + 1 := by
      show (if (a + 1) % k = 0 then tinN k a ((a + 1) / k) + 1 else 0) = _
      rw [if_pos h2]
    rw [e2, tinN_fuel (by omega) a ((a + 1) / k) h5 (by omega) ((a + 1) / k) (Nat.le_refl _)]
    rfl
theorem iShr_rng {a k : Int} (h : 0 ≤ a) (_ : 0 ≤ k) : 0 ≤ iShr a k ∧ iShr a k ≤ a := ⟨Int.ediv_nonneg h (Int.natCast_nonneg _), Int.ediv_le_self _ h⟩
theorem iAnd_rng (a b : Int) : 0 ≤ iAnd a b ∧ (0 ≤ a → iAnd a b ≤ a) ∧ (0 ≤ b → iAnd a b ≤ b) := by
  unfold iAnd
  have h1 : a.toNat &&& b.toNat ≤ a.toNat := Nat.and_le_left
  have h2 : a.toNat &&& b.toNat ≤ b.toNat := Nat.and_le_right
  omega
theorem tkA {v : Int} (h : 0 ≤ v ∧ v < 20) : (0 ≤ iShr 96 (v / 4) ∧ iShr 96 (v / 4) ≤ 96) ∧ (0 ≤ iShr v 1 ∧ iShr v 1 ≤ 20) ∧ (0 ≤ iAnd (iShr v 1) 1 ∧ iAnd (iShr v 1) 1 ≤ 1) ∧ (0 ≤ iAnd v 1 ∧ iAnd v 1 ≤ 1) := by
  obtain ⟨n, rfl, hn⟩ : ∃ n : Nat, v = n ∧ n < 20 := ⟨v.toNat, by omega, by omega⟩
  have key : ∀ n : Nat, n < 20 → (0 ≤ iShr 96 ((n : Int) / 4) ∧ iShr 96 ((n : Int) / 4) ≤ 96) ∧ (0 ≤ iShr (n : Int) 1 ∧ iShr (n : Int) 1 ≤ 20) ∧ (0 ≤ iAnd (iShr (n : Int) 1) 1 ∧ iAnd (iShr (n : Int) 1) 1 ≤ 1) ∧ (0 ≤ iAnd (n : Int) 1 ∧ iAnd (n : Int) 1 ≤ 1) := by decide +kernel
  exact key n hn
theorem tkB {v : Int} (h : 0 ≤ v ∧ v < 20) : (iAnd (iShr v 1) 1 = 1 → iAnd v 1 = 1 → (iShr 96 (v / 4) + iShr 96 (v / 4) / 2) / 3 * 2 = tk v) ∧ (iAnd (iShr v 1) 1 = 1 → ¬ iAnd v 1 = 1 → iShr 96 (v / 4) + iShr 96 (v / 4) / 2 = tk v) ∧ (¬ iAnd (iShr v 1) 1 = 1 → iAnd v 1 = 1 → iShr 96 (v / 4) / 3 * 2 = tk v) ∧ (¬ iAnd (iShr v 1) 1 = 1 → ¬ iAnd v 1 = 1 → iShr 96 (v / 4) = tk v) := by
  obtain ⟨n, rfl, hn⟩ : ∃ n : Nat, v = n ∧ n < 20 := ⟨v.toNat, by omega, by omega⟩
  have key : ∀ n : Nat, n < 20 → (iAnd (iShr (n : Int) 1) 1 = 1 → iAnd (n : Int) 1 = 1 → (iShr 96 ((n : Int) / 4) + iShr 96 ((n : Int) / 4) / 2) / 3 * 2 = tk n) ∧ (iAnd (iShr (n : Int) 1) 1 = 1 → ¬ iAnd (n : Int) 1 = 1 → iShr 96 ((n : Int) / 4) + iShr 96 ((n : Int) / 4) / 2 = tk n) ∧ (¬ iAnd (iShr (n : Int) 1) 1 = 1 → iAnd (n : Int) 1 = 1 → iShr 96 ((n : Int) / 4) / 3 * 2 = tk n) ∧ (¬ iAnd (iShr (n : Int) 1) 1 = 1 → ¬ iAnd (n : Int) 1 = 1 → iShr 96 ((n : Int) / 4) = tk n) := by decide +kernel
  exact key n hn
theorem tk_rng {v : Int} (h : 0 ≤ v ∧ v < 20) : 4 ≤ tk v ∧ tk v ≤ 144 := by
  obtain ⟨n, rfl, hn⟩ : ∃ n : Nat, v = n ∧ n < 20 := ⟨v.toNat, by omega, by omega⟩
  have key : ∀ n : Nat, n < 20 → 4 ≤ tk n ∧ tk n ≤ 144 := by decide +kernel
  exact key n hn
theorem tw_rng {v : Int} (h : 0 ≤ v ∧ v < 20) : (0 ≤ tw v ∧ tw v ≤ 6) ∧ (0 ≤ th v ∧ th v ≤ 2) ∧ (2 ≤ tw v + th v ∧ tw v + th v ≤ 6) ∧ tk v = 2 ^ (tw v).toNat * 3 ^ (th v).toNat := by
  obtain ⟨n, rfl, hn⟩ : ∃ n : Nat, v = n ∧ n < 20 := ⟨v.toNat, by omega, by omega⟩
  have key : ∀ n : Nat, n < 20 → (0 ≤ tw n ∧ tw n ≤ 6) ∧ (0 ≤ th n ∧ th n ≤ 2) ∧ (2 ≤ tw n + th n ∧ tw n + th n ≤ 6) ∧ tk n = 2 ^ (tw n).toNat * 3 ^ (th n).toNat := by decide +kernel
  exact key n hn
theorem tin2 {v : Int} (h : 0 ≤ v ∧ v < 20) : tin 2 (tk v) = tw v := by
  obtain ⟨n, rfl, hn⟩ : ∃ n : Nat, v = n ∧ n < 20 := ⟨v.toNat, by omega, by omega⟩
  have key : ∀ n : Nat, n < 20 → tin 2 (tk n) = tw n := by decide +kernel
  exact key n hn
theorem tin3 {v : Int} (h : 0 ≤ v ∧ v < 20) : tin 3 (tk v) = th v := by
  obtain ⟨n, rfl, hn⟩ : ∃ n : Nat, v = n ∧ n < 20 := ⟨v.toNat, by omega, by omega⟩
  have key : ∀ n : Nat, n < 20 → tin 3 (tk n) = th n := by decide +kernel
  exact key n hn
/-- a TEMPO, p times 2 to the x and 3 to the y, is not too slow, not too fast -/
def inB (p x y : Int) : Prop := (-30 ≤ x ∧ x ≤ 30) ∧ (-10 ≤ y ∧ y ≤ 10) ∧ 20 * (2 ^ (-x).toNat * 3 ^ (-y).toNat) ≤ p * 2 ^ x.toNat * 3 ^ y.toNat ∧ p * 2 ^ x.toNat * 3 ^ y.toNat ≤ 400 * (2 ^ (-x).toNat * 3 ^ (-y).toNat)
theorem pow_le2 {n k : Nat} (h : n ≤ k) : 1 ≤ (2 : Int) ^ n ∧ (2 : Int) ^ n ≤ 2 ^ k := by
  have h1 : 1 ≤ 2 ^ n := Nat.one_le_two_pow
  have h2 : 2 ^ n ≤ 2 ^ k := Nat.pow_le_pow_right (by omega) h
  refine ⟨?_, ?_⟩
  · exact_mod_cast h1
  · exact_mod_cast h2
theorem pow_le3 {n k : Nat} (h : n ≤ k) : 1 ≤ (3 : Int) ^ n ∧ (3 : Int) ^ n ≤ 3 ^ k := by
  have h1 : 1 ≤ 3 ^ n := Nat.one_le_pow _ _ (by omega)
  have h2 : 3 ^ n ≤ 3 ^ k := Nat.pow_le_pow_right (by omega) h
  refine ⟨?_, ?_⟩
  · exact_mod_cast h1
  · exact_mod_cast h2
theorem inB_low {x y : Int} (hx : -30 ≤ x ∧ x ≤ 30) (hy : -10 ≤ y ∧ y ≤ 10) : 1 ≤ (2 : Int) ^ (-x).toNat * 3 ^ (-y).toNat ∧ (2 : Int) ^ (-x).toNat * 3 ^ (-y).toNat ≤ 63403380965376 := by
  obtain ⟨a1, a2⟩ := pow_le2 (n := (-x).toNat) (k := 30) (by omega)
  obtain ⟨b1, b2⟩ := pow_le3 (n := (-y).toNat) (k := 10) (by omega)
  generalize (2 : Int) ^ (-x).toNat = a at *
  generalize (3 : Int) ^ (-y).toNat = b at *
  have h1 : 1 * 1 ≤ a * b := Int.mul_le_mul a1 b1 (by omega) (by omega)
  have h2 : a * b ≤ 2 ^ 30 * 3 ^ 10 := Int.mul_le_mul a2 b2 (by omega) (by decide)
  have h3 : (2 : Int) ^ 30 * 3 ^ 10 = 63403380965376 := by decide
  omega
theorem inB_up {p x y : Int} (hp : 0 ≤ p ∧ p ≤ 400) (hx : -30 ≤ x ∧ x ≤ 30) (hy : -10 ≤ y ∧ y ≤ 10) : 0 ≤ p * 2 ^ x.toNat * 3 ^ y.toNat ∧ p * 2 ^ x.toNat * 3 ^ y.toNat ≤ 25361352386150400 := by
  have h := inB_low (x := -x) (y := -y) (by omega) (by omega)
  rw [Int.neg_neg, Int.neg_neg] at h
  rw [Int.mul_assoc]
  generalize (2 : Int) ^ x.toNat * 3 ^ y.toNat = a at *
  have h1 : 0 ≤ p * a := Int.mul_nonneg hp.1 (by omega)
  have h2 : p * a ≤ 400 * 63403380965376 := Int.mul_le_mul hp.2 h.2 (by omega) (by decide)
  omega
