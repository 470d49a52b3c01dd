/-! ===== numbers: Java ints and longs as images of whole numbers ===== -/
def jI (x : Int) : Int32 := Int32.ofInt x
def jL (x : Int) : Int64 := Int64.ofInt x
theorem jI_add (a b : Int) : jI a + jI b = jI (a + b) := (Int32.ofInt_add a b).symm
theorem jI_sub (a b : Int) : jI a - jI b = jI (a - b) := (Int32.ofInt_sub a b).symm
theorem jI_mul (a b : Int) : jI a * jI b = jI (a * b) := (Int32.ofInt_mul a b).symm
theorem jI_neg (a : Int) : - jI a = jI (-a) := (Int32.ofInt_neg a).symm
theorem jL_add (a b : Int) : jL a + jL b = jL (a + b) := (Int64.ofInt_add a b).symm
theorem jL_sub (a b : Int) : jL a - jL b = jL (a - b) := (Int64.ofInt_sub a b).symm
theorem jL_mul (a b : Int) : jL a * jL b = jL (a * b) := (Int64.ofInt_mul a b).symm
theorem jL_neg (a : Int) : - jL a = jL (-a) := (Int64.ofInt_neg a).symm
theorem jI_toInt {a : Int} (h1 : -2147483648 ≤ a) (h2 : a < 2147483648) : (jI a).toInt = a := Int32.toInt_ofInt_of_le h1 h2
theorem jL_toInt {a : Int} (h1 : -9223372036854775808 ≤ a) (h2 : a < 9223372036854775808) : (jL a).toInt = a := Int64.toInt_ofInt_of_le h1 h2
theorem jI_of (x : Int32) : x = jI x.toInt := (Int32.ofInt_toInt x).symm
theorem jL_of (x : Int64) : x = jL x.toInt := (Int64.ofInt_toInt x).symm
theorem jI_rng (x : Int32) : -2147483648 ≤ x.toInt ∧ x.toInt < 2147483648 := ⟨Int32.le_toInt x, Int32.toInt_lt x⟩
theorem jL_rng (x : Int64) : -9223372036854775808 ≤ x.toInt ∧ x.toInt < 9223372036854775808 := ⟨Int64.le_toInt x, Int64.toInt_lt x⟩
theorem jI_lt {a b : Int} (h : (-2147483648 ≤ a ∧ a < 2147483648) ∧ (-2147483648 ≤ b ∧ b < 2147483648)) : jI a < jI b ↔ a < b := by
  rw [Int32.lt_iff_toInt_lt, jI_toInt h.1.1 h.1.2, jI_toInt h.2.1 h.2.2]
theorem jI_le {a b : Int} (h : (-2147483648 ≤ a ∧ a < 2147483648) ∧ (-2147483648 ≤ b ∧ b < 2147483648)) : jI a ≤ jI b ↔ a ≤ b := by
  rw [Int32.le_iff_toInt_le, jI_toInt h.1.1 h.1.2, jI_toInt h.2.1 h.2.2]
theorem jI_eq {a b : Int} (h : (-2147483648 ≤ a ∧ a < 2147483648) ∧ (-2147483648 ≤ b ∧ b < 2147483648)) : jI a = jI b ↔ a = b := by
  rw [← Int32.toInt_inj, jI_toInt h.1.1 h.1.2, jI_toInt h.2.1 h.2.2]
theorem jL_lt {a b : Int} (h : (-9223372036854775808 ≤ a ∧ a < 9223372036854775808) ∧ (-9223372036854775808 ≤ b ∧ b < 9223372036854775808)) : jL a < jL b ↔ a < b := by
  rw [Int64.lt_iff_toInt_lt, jL_toInt h.1.1 h.1.2, jL_toInt h.2.1 h.2.2]
theorem jL_eq {a b : Int} (h : (-9223372036854775808 ≤ a ∧ a < 9223372036854775808) ∧ (-9223372036854775808 ≤ b ∧ b < 9223372036854775808)) : jL a = jL b ↔ a = b := by
  rw [← Int64.toInt_inj, jL_toInt h.1.1 h.1.2, jL_toInt h.2.1 h.2.2]
theorem jI_div {a b : Int} (h : (0 ≤ a ∧ a < 2147483648) ∧ (0 < b ∧ b < 2147483648)) : jI a / jI b = jI (a / b) := by
  apply Int32.toInt_inj.mp
  have h1 : (jI a).toInt = a := jI_toInt (by omega) (by omega)
  have h2 : (jI b).toInt = b := jI_toInt (by omega) (by omega)
  have h3 : 0 ≤ a / b := Int.ediv_nonneg h.1.1 (by omega)
  have h4 : a / b ≤ a := Int.ediv_le_self _ h.1.1
  rw [lg_idiv_nonneg (by omega) (by omega), h1, h2, jI_toInt (by omega) (by omega)]
theorem jL_div {a b : Int} (h : (0 ≤ a ∧ a < 9223372036854775808) ∧ (0 < b ∧ b < 9223372036854775808)) : jL a / jL b = jL (a / b) := by
  apply Int64.toInt_inj.mp
  have h1 : (jL a).toInt = a := jL_toInt (by omega) (by omega)
  have h2 : (jL b).toInt = b := jL_toInt (by omega) (by omega)
  have h3 : 0 ≤ a / b := Int.ediv_nonneg h.1.1 (by omega)
  have h4 : a / b ≤ a := Int.ediv_le_self _ h.1.1
  rw [lg_ldiv_nonneg (by omega) (by omega), h1, h2, jL_toInt (by omega) (by omega)]
theorem jI_rem {a b : Int} (h : (0 ≤ a ∧ a < 2147483648) ∧ (0 < b ∧ b < 2147483648)) : jI a - jI a / jI b * jI b = jI (a % b) := by
  rw [jI_div h, jI_mul, jI_sub]
  congr 1
  rw [Int.emod_def, Int.mul_comm b]
theorem jL_rem {a b : Int} (h : (0 ≤ a ∧ a < 9223372036854775808) ∧ (0 < b ∧ b < 9223372036854775808)) : jL a - jL a / jL b * jL b = jL (a % b) := by
  rw [jL_div h, jL_mul, jL_sub]
  congr 1
  rw [Int.emod_def, Int.mul_comm b]
theorem jI_ne0 {b : Int} (h : 0 < b ∧ b < 2147483648) : ¬ jI b = 0 := by
  intro q
  have := congrArg Int32.toInt q
  rw [jI_toInt (by omega) (by omega)] at this
  have h0 : (0 : Int32).toInt = 0 := rfl
  omega
theorem jL_ne0 {b : Int} (h : 0 < b ∧ b < 9223372036854775808) : ¬ jL b = 0 := by
  intro q
  have := congrArg Int64.toInt q
  rw [jL_toInt (by omega) (by omega)] at this
  have h0 : (0 : Int64).toInt = 0 := rfl
  omega
theorem jI_l {a : Int} (h : -2147483648 ≤ a ∧ a < 2147483648) : (jI a).toInt64 = jL a := by
  apply Int64.toInt_inj.mp
  rw [Int32.toInt_toInt64, jI_toInt h.1 h.2, jL_toInt (by omega) (by omega)]
theorem jL_i (a : Int) : (jL a).toInt32 = jI a := Int64.toInt32_ofInt
theorem jI_clamp {a : Int} (h1 : 0 ≤ a) (h2 : a < 2147483648) : (jI a).toNatClampNeg = a.toNat := Int32.toNatClampNeg_ofInt_of_le (by omega) h2
theorem jI_in {a : Int} {n : Nat} (h : 0 ≤ a ∧ a < n) (hn : n < 2147483648) : vp_in (jI a) n := by
  rw [vp_in_iff, jI_toInt (by omega) (by omega)]
  exact h
theorem jI_z : (0 : Int32) = jI 0 := rfl
theorem jI_b {a : Int} (h : a = 0 ∨ a = 1) : narrow .boolean (.int (jI a)) = .int (jI a) := by
  rcases h with rfl | rfl <;> rfl
/-! bits, of numbers that are not below 0 -/
def iOr (a b : Int) : Int := ((a.toNat ||| b.toNat : Nat) : Int)
def iAnd (a b : Int) : Int := ((a.toNat &&& b.toNat : Nat) : Int)
def iXor (a b : Int) : Int := ((a.toNat ^^^ b.toNat : Nat) : Int)
def iShl (a k : Int) : Int := a * ((2 ^ k.toNat : Nat) : Int)
def iShr (a k : Int) : Int := a / ((2 ^ k.toNat : Nat) : Int)
theorem jI_bv {a : Int} (h : 0 ≤ a ∧ a < 2147483648) : (jI a).toBitVec = BitVec.ofNat 32 a.toNat := by
  obtain ⟨n, rfl⟩ : ∃ n : Nat, a = n := ⟨a.toNat, by omega⟩
  show (Int32.ofInt (n : Int)).toBitVec = _
  rw [Int32.ofInt_eq_ofNat]
  simp [Int32.toBitVec_ofNat']
theorem jI_ofbv {n : Nat} (x : Int32) (h : x.toBitVec = BitVec.ofNat 32 n) : x = jI n := by
  apply Int32.toBitVec_inj.mp
  rw [h]
  show _ = (Int32.ofInt (n : Int)).toBitVec
  rw [Int32.ofInt_eq_ofNat]
  simp [Int32.toBitVec_ofNat']
theorem jI_or {a b : Int} (ha : 0 ≤ a ∧ a < 2147483648) (hb : 0 ≤ b ∧ b < 2147483648) : jI a ||| jI b = jI (iOr a b) := by
  apply jI_ofbv
  rw [Int32.toBitVec_or, jI_bv ha, jI_bv hb]
  apply BitVec.eq_of_toNat_eq
  simp
theorem jI_and {a b : Int} (ha : 0 ≤ a ∧ a < 2147483648) (hb : 0 ≤ b ∧ b < 2147483648) : jI a &&& jI b = jI (iAnd a b) := by
  apply jI_ofbv
  rw [Int32.toBitVec_and, jI_bv ha, jI_bv hb]
  apply BitVec.eq_of_toNat_eq
  simp
theorem jI_xor {a b : Int} (ha : 0 ≤ a ∧ a < 2147483648) (hb : 0 ≤ b ∧ b < 2147483648) : jI a ^^^ jI b = jI (iXor a b) := by
  apply jI_ofbv
  rw [Int32.toBitVec_xor, jI_bv ha, jI_bv hb]
  apply BitVec.eq_of_toNat_eq
  simp
theorem jI_k31 {k : Int} (hk : 0 ≤ k ∧ k < 32) : ((jI k &&& 31).toBitVec.smod 32).toNat = k.toNat := by
  obtain ⟨n, rfl, hn⟩ : ∃ n : Nat, k = n ∧ n < 32 := ⟨k.toNat, by omega, by omega⟩
  have key : ∀ n : Nat, n < 32 → ((jI (n : Int) &&& 31).toBitVec.smod 32).toNat = n := by decide +kernel
  simpa using key n hn
theorem jI_shl {a k : Int} (ha : 0 ≤ a ∧ a < 2147483648) (hk : 0 ≤ k ∧ k < 32) : jI a <<< (jI k &&& 31) = jI (iShl a k) := by
  have h1 := pk_shl (jI a) (jI k &&& 31) k.toNat (jI_k31 hk)
  apply Int32.toBitVec_inj.mp
  apply BitVec.eq_of_toNat_eq
  rw [h1, jI_bv ha]
  show _ = (Int32.ofInt (iShl a k)).toBitVec.toNat
  obtain ⟨n, rfl⟩ : ∃ n : Nat, a = n := ⟨a.toNat, by omega⟩
  have : iShl (n : Int) k = ((n * 2 ^ k.toNat : Nat) : Int) := by simp [iShl]
  rw [this, Int32.ofInt_eq_ofNat]
  simp [Int32.toBitVec_ofNat', Nat.mod_mul_mod]
theorem jI_shr {a k : Int} (ha : 0 ≤ a ∧ a < 2147483648) (hk : 0 ≤ k ∧ k < 32) : jI a >>> (jI k &&& 31) = jI (iShr a k) := by
  have h1 := pk_shr (jI a) (jI k &&& 31) k.toNat (jI_k31 hk)
  apply Int32.toInt_inj.mp
  rw [h1, jI_toInt (by omega) (by omega)]
  have h2 : a >>> k.toNat = iShr a k := by rw [Int.shiftRight_eq_div_pow]; rfl
  rw [h2]
  have h3 : 0 ≤ iShr a k := Int.ediv_nonneg ha.1 (Int.natCast_nonneg _)
  have h4 : iShr a k ≤ a := Int.ediv_le_self _ ha.1
  rw [jI_toInt (by omega) (by omega)]
/-! ===== states: a number for each field and place ===== -/
abbrev St : Type := Nat → Int → Int
def up (σ : St) (F : Nat) (e v : Int) : St := fun G i => cond (Nat.beq G F) (if i = e then v else σ G i) (σ G i)
theorem up_s (σ : St) (F : Nat) (e v : Int) : up σ F e v F e = v := by simp [up]
theorem up_n (σ : St) (F : Nat) {e i : Int} (v : Int) (h : i ≠ e) : up σ F e v F i = σ F i := by simp [up, h]
theorem up_f (σ : St) {F G : Nat} (e v i : Int) (h : G ≠ F) : up σ F e v G i = σ G i := by
  have : Nat.beq G F = false := by cases hq : Nat.beq G F with
    | false => rfl
    | true => exact absurd (Nat.eq_of_beq_eq_true hq) h
  simp [up, this]
theorem up_i (σ : St) (F : Nat) (e v i : Int) : up σ F e v F i = if i = e then v else σ F i := by simp [up]
theorem jI_upd {f : Int → Int} {e v : Int} {n : Nat} (h : 0 ≤ e ∧ e < n) (hn : n < 2147483648) : upd (fun i : Nat => jI (f i)) (jI e).toNatClampNeg (jI v) = fun i : Nat => jI (if (i : Int) = e then v else f i) := by
  rw [jI_clamp (by omega) (by omega)]
  funext i
  unfold upd
  by_cases q : i = e.toNat
  · rw [if_pos q, if_pos (by omega)]
  · rw [if_neg q, if_neg (by omega)]
theorem jL_upd {f : Int → Int} {e v : Int} {n : Nat} (h : 0 ≤ e ∧ e < n) (hn : n < 2147483648) : vp_updL (fun i : Nat => jL (f i)) (jI e).toNatClampNeg (jL v) = fun i : Nat => jL (if (i : Int) = e then v else f i) := by
  rw [jI_clamp (by omega) (by omega)]
  funext i
  unfold vp_updL
  by_cases q : i = e.toNat
  · rw [if_pos q, if_pos (by omega)]
  · rw [if_neg q, if_neg (by omega)]
