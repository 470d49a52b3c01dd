/-! ===== pivots of the class: places, distances ===== -/
theorem ins_vb {set v : Int} : ins set v ↔ vb set v = 1 := by
  unfold ins vb
  by_cases q : set.toNat.testBit v.toNat = true
  · rw [if_pos q]; exact ⟨fun _ => rfl, fun _ => q⟩
  · rw [if_neg q]; exact ⟨fun z => absurd z q, fun z => by omega⟩
theorem ins_and {set v : Int} : ¬ iAnd set (iShl 1 v) = 0 ↔ ins set v := by
  rw [ins_vb, vb_and]
  have := vb_01 set v
  omega
/-- a row of places: from t on, w of them -/
def LYo (p y t w : Int) : Prop := (-30 ≤ t ∧ t ≤ 26) ∧ (w = 4 ∨ w = 5) ∧ ∀ x, inB p x y ↔ (0 ≤ x - t ∧ x - t < w)
def LY (u : St) (p : Int) : Prop := ∀ r, 0 ≤ r → r < 21 → LYo p (r - 10) (u 31 r) (u 32 r)
theorem ly_ge {A B A' B' k : Int} (hB : 0 < B) (hB' : 0 < B') (hk : 1 ≤ k) (h : 20 * B ≤ A) (e : A' * B = k * A * B') : 20 * k * B' ≤ A' := by
  refine Int.le_of_mul_le_mul_right ?_ hB
  rw [e]
  have : 20 * k * B' * B = k * (20 * B) * B' := by ac_rfl
  rw [this]
  exact Int.mul_le_mul_of_nonneg_right (Int.mul_le_mul_of_nonneg_left h (by omega)) (by omega)
theorem ly_lt {A B A' B' k c : Int} (hB : 0 < B) (hB' : 0 < B') (hk : 1 ≤ k) (h : A < c * B) (e : A' * B = k * A * B') : A' < c * k * B' := by
  refine Int.lt_of_mul_lt_mul_right ?_ (show 0 ≤ B by omega)
  rw [e]
  have : c * k * B' * B = k * (c * B) * B' := by ac_rfl
  rw [this]
  exact Int.mul_lt_mul_of_pos_right (Int.mul_lt_mul_of_pos_left h (by omega)) hB'
theorem ly_le {A B A' B' k c : Int} (hB : 0 < B) (hB' : 0 < B') (hk : 1 ≤ k) (h : k * A ≤ c * B) (e : A' * B = k * A * B') : A' ≤ c * B' := by
  refine Int.le_of_mul_le_mul_right ?_ hB
  rw [e]
  have : c * B' * B = c * B * B' := by ac_rfl
  rw [this]
  exact Int.mul_le_mul_of_nonneg_right h (by omega)
theorem ly_le' {A B A' B' k c : Int} (hB : 0 < B) (hB' : 0 < B') (h : A' ≤ c * B') (e : A' * B = k * A * B') : k * A ≤ c * B := by
  refine Int.le_of_mul_le_mul_right ?_ hB'
  rw [← e]
  have : c * B * B' = c * B' * B := by ac_rfl
  rw [this]
  exact Int.mul_le_mul_of_nonneg_right h (by omega)
theorem ly_low {A B A' B' k : Int} (hB : 0 < B) (hB' : 0 < B') (hA' : 0 ≤ A') (hk : 2 ≤ k) (h : A < 40 * B) (e : k * A' * B = A * B') : A' < 20 * B' := by
  refine Int.lt_of_mul_lt_mul_right (a := 2 * B) ?_ (by omega)
  have l1 : A' * (2 * B) ≤ k * A' * B := by
    have : A' * (2 * B) = 2 * A' * B := by ac_rfl
    rw [this]
    exact Int.mul_le_mul_of_nonneg_right (Int.mul_le_mul_of_nonneg_right hk hA') (by omega)
  have l2 : A * B' < 40 * B * B' := Int.mul_lt_mul_of_pos_right h hB'
  have l3 : 20 * B' * (2 * B) = 40 * B * B' := by rw [show (40 : Int) = 20 * 2 by rfl]; ac_rfl
  omega
theorem p2_id {t c : Int} (hc : 0 ≤ c) : (2 : Int) ^ (t + c).toNat * 2 ^ (-t).toNat = 2 ^ c.toNat * 2 ^ t.toNat * 2 ^ (-(t + c)).toNat := by
  rw [← Int.pow_add, ← Int.pow_add, ← Int.pow_add]
  congr 1
  omega
theorem ly_row {p y t U L : Int} (hp : 20 ≤ p ∧ p ≤ 400) (hy : -10 ≤ y ∧ y ≤ 10) (ht : -26 ≤ t ∧ t ≤ 26) (hU : U = p * 3 ^ y.toNat * 2 ^ t.toNat) (hL : L = 3 ^ (-y).toNat * 2 ^ (-t).toNat) (h1 : 20 * L ≤ U) (h2 : U < 40 * L) {w : Int} (hw : (w = 5 ∧ U * 16 ≤ 400 * L) ∨ (w = 4 ∧ 400 * L < U * 16)) : LYo p y t w := by
  refine ⟨by omega, by omega, fun x => ?_⟩
  have pL : 0 < L := by rw [hL]; exact Int.mul_pos (by have := (pow_le3 (Nat.le_refl (-y).toNat)).1; omega) (by have := (pow_le2 (Nat.le_refl (-t).toNat)).1; omega)
  have pB : 0 < (2 : Int) ^ (-x).toNat * 3 ^ (-y).toNat := Int.mul_pos (by have := (pow_le2 (Nat.le_refl (-x).toNat)).1; omega) (by have := (pow_le3 (Nat.le_refl (-y).toNat)).1; omega)
  have pA : 0 ≤ p * 2 ^ x.toNat * 3 ^ y.toNat := Int.mul_nonneg (Int.mul_nonneg (by omega) (by have := (pow_le2 (Nat.le_refl x.toNat)).1; omega)) (by have := (pow_le3 (Nat.le_refl y.toNat)).1; omega)
  by_cases hc : 0 ≤ x - t
  · have id := p2_id (t := t) hc
    rw [show t + (x - t) = x by omega] at id
    have e : (p * 2 ^ x.toNat * 3 ^ y.toNat) * L = 2 ^ (x - t).toNat * U * (2 ^ (-x).toNat * 3 ^ (-y).toNat) := by
      calc (p * 2 ^ x.toNat * 3 ^ y.toNat) * L = p * 3 ^ y.toNat * 3 ^ (-y).toNat * (2 ^ x.toNat * 2 ^ (-t).toNat) := by rw [hL]; ac_rfl
        _ = p * 3 ^ y.toNat * 3 ^ (-y).toNat * (2 ^ (x - t).toNat * 2 ^ t.toNat * 2 ^ (-x).toNat) := by rw [id]
        _ = 2 ^ (x - t).toNat * U * (2 ^ (-x).toNat * 3 ^ (-y).toNat) := by rw [hU]; ac_rfl
    have k1 := (pow_le2 (Nat.le_refl (x - t).toNat)).1
    have lo := ly_ge pL pB k1 h1 e
    unfold inB
    by_cases c5 : 5 ≤ x - t
    · have p5 : (2 : Int) ^ 5 ≤ 2 ^ (x - t).toNat := (pow_le2 (show 5 ≤ (x - t).toNat by omega)).2
      have p32 : (2 : Int) ^ 5 = 32 := by decide
      have : (640 : Int) * (2 ^ (-x).toNat * 3 ^ (-y).toNat) ≤ 20 * 2 ^ (x - t).toNat * (2 ^ (-x).toNat * 3 ^ (-y).toNat) := Int.mul_le_mul_of_nonneg_right (show (640 : Int) ≤ 20 * 2 ^ (x - t).toNat by omega) (Int.le_of_lt pB)
      constructor
      · intro q; omega
      · intro q; omega
    · have lo2 : 20 * (2 ^ (-x).toNat * 3 ^ (-y).toNat) ≤ p * 2 ^ x.toNat * 3 ^ y.toNat := by
        have : (20 : Int) * (2 ^ (-x).toNat * 3 ^ (-y).toNat) ≤ 20 * 2 ^ (x - t).toNat * (2 ^ (-x).toNat * 3 ^ (-y).toNat) := Int.mul_le_mul_of_nonneg_right (show (20 : Int) ≤ 20 * 2 ^ (x - t).toNat by omega) (Int.le_of_lt pB)
        omega
      have hk : (x - t = 4 ∧ (2 : Int) ^ (x - t).toNat = 16) ∨ (x - t < 4 ∧ (2 : Int) ^ (x - t).toNat ≤ 8) := by
        rcases (show x - t = 0 ∨ x - t = 1 ∨ x - t = 2 ∨ x - t = 3 ∨ x - t = 4 by omega) with z | z | z | z | z <;> rw [z]
        · right; exact ⟨by omega, by decide⟩
        · right; exact ⟨by omega, by decide⟩
        · right; exact ⟨by omega, by decide⟩
        · right; exact ⟨by omega, by decide⟩
        · left; exact ⟨by omega, by decide⟩
      rcases hk with ⟨z, hk⟩ | ⟨z, hk⟩
      · constructor
        · intro q
          have := ly_le' (c := 400) pL pB q.2.2.2 e
          rw [hk] at this
          omega
        · intro q
          exact ⟨by omega, hy, lo2, ly_le (c := 400) pL pB k1 (by rw [hk]; omega) e⟩
      · constructor
        · intro q; omega
        · intro q
          refine ⟨by omega, hy, lo2, ?_⟩
          have := ly_lt (c := 40) pL pB k1 h2 e
          have l2 : (40 : Int) * 2 ^ (x - t).toNat * (2 ^ (-x).toNat * 3 ^ (-y).toNat) ≤ 320 * (2 ^ (-x).toNat * 3 ^ (-y).toNat) := Int.mul_le_mul_of_nonneg_right (show 40 * 2 ^ (x - t).toNat ≤ (320 : Int) by omega) (Int.le_of_lt pB)
          omega
  · have id := p2_id (t := x) (c := t - x) (by omega)
    rw [show x + (t - x) = t by omega] at id
    have e : 2 ^ (t - x).toNat * (p * 2 ^ x.toNat * 3 ^ y.toNat) * L = U * (2 ^ (-x).toNat * 3 ^ (-y).toNat) := by
      calc 2 ^ (t - x).toNat * (p * 2 ^ x.toNat * 3 ^ y.toNat) * L = p * 3 ^ y.toNat * 3 ^ (-y).toNat * (2 ^ (t - x).toNat * 2 ^ x.toNat * 2 ^ (-t).toNat) := by rw [hL]; ac_rfl
        _ = p * 3 ^ y.toNat * 3 ^ (-y).toNat * (2 ^ t.toNat * 2 ^ (-x).toNat) := by rw [id]
        _ = U * (2 ^ (-x).toNat * 3 ^ (-y).toNat) := by rw [hU]; ac_rfl
    have p2 : (2 : Int) ^ 1 ≤ 2 ^ (t - x).toNat := (pow_le2 (show 1 ≤ (t - x).toNat by omega)).2
    have p21 : (2 : Int) ^ 1 = 2 := by decide
    have := ly_low pL pB pA (by omega) h2 e
    unfold inB
    constructor
    · intro q; omega
    · intro q; omega
/-! places -/
def cX (u : St) (P : Int) : Int := u 31 (P / 5) + P % 5
def cY (P : Int) : Int := P / 5 - 10
def VP (u : St) (p P : Int) : Prop := (0 ≤ P ∧ P < 105) ∧ inB p (cX u P) (cY P)
def PLC (u : St) (p x y r : Int) : Prop := (r = -9 ∧ ¬ inB p x y) ∨ (inB p x y ∧ r = 5 * (y + 10) + (x - u 31 (y + 10)) ∧ VP u p r ∧ cX u r = x ∧ cY r = y)
theorem PLC_a {u : St} {p x y : Int} (h : LY u p) (hy : 0 ≤ y + 10 ∧ y + 10 < 21) (h0 : 0 ≤ x - u 31 (y + 10)) (h1 : x - u 31 (y + 10) < u 32 (y + 10)) : PLC u p x y (5 * (y + 10) + (x - u 31 (y + 10))) := by
  obtain ⟨a1, a2, a3⟩ := h (y + 10) hy.1 hy.2
  rw [show y + 10 - 10 = y by omega] at a3
  have hin := (a3 x).mpr ⟨h0, h1⟩
  have e5 : (5 * (y + 10) + (x - u 31 (y + 10))) / 5 = y + 10 := by omega
  have ex : cX u (5 * (y + 10) + (x - u 31 (y + 10))) = x := by unfold cX; rw [e5]; omega
  have ey : cY (5 * (y + 10) + (x - u 31 (y + 10))) = y := by unfold cY; rw [e5]; omega
  exact Or.inr ⟨hin, rfl, ⟨by omega, by rw [ex, ey]; exact hin⟩, ex, ey⟩
theorem PLC_b {u : St} {p x y : Int} (h : LY u p) (hy : 0 ≤ y + 10 ∧ y + 10 < 21) (h1 : ¬ (0 ≤ x - u 31 (y + 10) ∧ x - u 31 (y + 10) < u 32 (y + 10))) : PLC u p x y (-9) := by
  obtain ⟨a1, a2, a3⟩ := h (y + 10) hy.1 hy.2
  rw [show y + 10 - 10 = y by omega] at a3
  exact Or.inl ⟨rfl, fun q => h1 ((a3 x).mp q)⟩
theorem PLC_c {u : St} {p x y : Int} (hy : ¬ (0 ≤ y + 10 ∧ y + 10 < 21)) : PLC u p x y (-9) := Or.inl ⟨rfl, fun q => by unfold inB at q; omega⟩
theorem PLC_n {u : St} {p x y r : Int} (h : PLC u p x y r) (h9 : ¬ r = -9) : inB p x y ∧ VP u p r ∧ cX u r = x ∧ cY r = y := by
  rcases h with q | q
  · exact absurd q.1 h9
  · exact ⟨q.1, q.2.2⟩
theorem PLC_r {u : St} {p x y r : Int} (h : PLC u p x y r) : r = -9 ∨ (0 ≤ r ∧ r < 105) := by
  rcases h with q | q
  · exact Or.inl q.1
  · exact Or.inr q.2.2.1.1
theorem VP_one {u : St} {p P Q : Int} (hP : VP u p P) (hQ : VP u p Q) (ex : cX u P = cX u Q) (ey : cY P = cY Q) : P = Q := by
  unfold cX at ex
  unfold cY at ey
  rw [show P / 5 = Q / 5 by omega] at ex
  omega
theorem VP_of {u : St} {p x y : Int} (h : LY u p) (hin : inB p x y) : ∃ P, VP u p P ∧ cX u P = x ∧ cY P = y := by
  have hy : 0 ≤ y + 10 ∧ y + 10 < 21 := by unfold inB at hin; omega
  obtain ⟨a1, a2, a3⟩ := h (y + 10) hy.1 hy.2
  rw [show y + 10 - 10 = y by omega] at a3
  have q := (a3 x).mp hin
  rcases PLC_a h hy q.1 q.2 with z | z
  · exact absurd hin z.2
  · exact ⟨_, z.2.2⟩
theorem VP_rng {u : St} {p P : Int} (h : VP u p P) : (-30 ≤ cX u P ∧ cX u P ≤ 30) ∧ (-10 ≤ cY P ∧ cY P ≤ 10) := by
  have := h.2
  unfold inB at this
  exact ⟨this.1, this.2.1⟩
/-! the steps -/
def sI (c : Int) : Int := (dY c + 2) * 13 + (dX c + 6)
def STb (u : St) (set m : Int) : Prop := ∀ i, 0 ≤ i → i < 65 → (u 33 i = 1 ∧ ∃ c, (0 ≤ c ∧ c < m) ∧ stp set c ∧ i = sI c) ∨ (u 33 i = 0 ∧ ∀ c, 0 ≤ c → c < m → stp set c → ¬ i = sI c)
theorem sI_rng {c : Int} (h : 0 ≤ c ∧ c < 400) : 0 ≤ sI c ∧ sI c < 65 := by
  have := dXY_rng h
  unfold sI
  omega
theorem sI_d {c i : Int} (h : 0 ≤ c ∧ c < 400) (e : i = sI c) : dX c = i % 13 - 6 ∧ dY c = i / 13 - 2 := by
  have := dXY_rng h
  unfold sI at e
  omega
theorem ST_add {u : St} {set m : Int} (hm : 0 ≤ m) (h : STb u set m) (hs : stp set m) : STb (up u 33 (sI m) 1) set (m + 1) := by
  intro i i0 i1
  rw [up_i]
  by_cases q : i = sI m
  · rw [if_pos q]
    exact Or.inl ⟨rfl, m, by omega, hs, q⟩
  · rw [if_neg q]
    rcases h i i0 i1 with ⟨e, c, c1, c2, c3⟩ | ⟨e, c1⟩
    · exact Or.inl ⟨e, c, by omega, c2, c3⟩
    · refine Or.inr ⟨e, fun c c0 c2 hc => ?_⟩
      by_cases z : c = m
      · rw [z]; exact q
      · exact c1 c c0 (by omega) hc
theorem ST_skip {u : St} {set m : Int} (hm : 0 ≤ m) (h : STb u set m) (hs : ¬ stp set m) : STb u set (m + 1) := by
  intro i i0 i1
  rcases h i i0 i1 with ⟨e, c, c1, c2, c3⟩ | ⟨e, c1⟩
  · exact Or.inl ⟨e, c, by omega, c2, c3⟩
  · refine Or.inr ⟨e, fun c c0 c2 hc => ?_⟩
    by_cases z : c = m
    · rw [z] at hc; exact absurd hc hs
    · exact c1 c c0 (by omega) hc
theorem stp_vw {set v w : Int} (hw : 0 ≤ w ∧ w < 20) : stp set (20 * v + w) ↔ ins set v ∧ ins set w := by
  unfold stp
  rw [show (20 * v + w) / 20 = v by omega, show (20 * v + w) % 20 = w by omega]
theorem dX_vw {v w : Int} (hw : 0 ≤ w ∧ w < 20) : dX (20 * v + w) = tw w - tw v ∧ dY (20 * v + w) = th w - th v := by
  unfold dX dY
  rw [show (20 * v + w) / 20 = v by omega, show (20 * v + w) % 20 = w by omega]
  exact ⟨rfl, rfl⟩
/-! distances from a place, by a queue -/
section BQ
variable (p set X Y : Int)
def BQ (u : St) (n : Int) : Prop := (1 ≤ n ∧ n ≤ 105) ∧ (∀ j, 0 ≤ j → j < n → VP u p (u 35 j) ∧ (0 ≤ u 34 (u 35 j) ∧ u 34 (u 35 j) ≤ 5) ∧ rch p set X Y (u 34 (u 35 j)).toNat (cX u (u 35 j)) (cY (u 35 j))) ∧ (∀ j k, 0 ≤ j → j < k → k < n → u 34 (u 35 j) ≤ u 34 (u 35 k)) ∧ (∀ P, 0 ≤ P → P < 105 → u 34 P = -9 ∨ ∃ j, (0 ≤ j ∧ j < n) ∧ u 35 j = P) ∧ smI (fun P => if u 34 P = -9 then 0 else 1) 105 = n
def BN (u : St) (P m : Int) : Prop := ∀ i, 0 ≤ i → i < m → u 33 i = 1 → ∀ Q, VP u p Q → cX u Q = cX u P + i % 13 - 6 → cY Q = cY P + i / 13 - 2 → ¬ u 34 Q = -9 ∧ u 34 Q ≤ u 34 P + 1
variable {p set X Y}
theorem smI_le1 {f : Int → Int} : ∀ n : Nat, (∀ k : Int, 0 ≤ k → k < n → f k ≤ 1) → smI f n ≤ n := by
  intro n
  induction n with
  | zero => intro _; exact Int.le_refl _
  | succ n ih =>
    intro h
    have e1 := smI_succ f (k := (n : Int)) (by omega)
    rw [show ((n : Int) + 1).toNat = n + 1 by omega, Int.toNat_natCast] at e1
    have := h n (by omega) (by omega)
    have := ih (fun k k0 k1 => h k k0 (by omega))
    omega
theorem smI_gap {f : Int → Int} : ∀ n : Nat, (∀ k : Int, 0 ≤ k → k < n → f k ≤ 1) → (∃ k : Int, (0 ≤ k ∧ k < n) ∧ f k = 0) → smI f n ≤ n - 1 := by
  intro n
  induction n with
  | zero => rintro _ ⟨k, hk, _⟩; omega
  | succ n ih =>
    rintro h ⟨k, hk, e⟩
    have e1 := smI_succ f (k := (n : Int)) (by omega)
    rw [show ((n : Int) + 1).toNat = n + 1 by omega, Int.toNat_natCast] at e1
    have fn := h n (by omega) (by omega)
    by_cases q : k = n
    · rw [q] at e
      have le := smI_le1 n (fun k k0 k1 => h k k0 (by omega))
      omega
    · have := ih (fun k k0 k1 => h k k0 (by omega)) ⟨k, by omega, e⟩
      omega
theorem BQ_fit {u : St} {n Q : Int} (h : BQ p set X Y u n) (hQ : 0 ≤ Q ∧ Q < 105) (h9 : u 34 Q = -9) : n ≤ 104 := by
  have := smI_gap (f := fun P => if u 34 P = -9 then 0 else 1) 105 (fun k _ _ => by split <;> omega) ⟨Q, by omega, if_pos h9⟩
  rw [h.2.2.2.2] at this
  omega
theorem BQ_add {u : St} {n Q e : Int} (h : BQ p set X Y u n) (hQ : VP u p Q) (h9 : u 34 Q = -9) (he : 0 ≤ e ∧ e ≤ 5) (hle : ∀ k, 0 ≤ k → k < n → u 34 (u 35 k) ≤ e) (hr : rch p set X Y e.toNat (cX u Q) (cY Q)) : BQ p set X Y (up (up u 34 Q e) 35 n Q) (n + 1) ∧ (∀ j, j < n → up (up u 34 Q e) 35 n Q 35 j = u 35 j) ∧ (∀ P, ¬ u 34 P = -9 → up (up u 34 Q e) 35 n Q 34 P = u 34 P) ∧ (∀ k, 0 ≤ k → k < n + 1 → up (up u 34 Q e) 35 n Q 34 (up (up u 34 Q e) 35 n Q 35 k) ≤ e) := by
  have fit := BQ_fit h hQ.1 h9
  obtain ⟨h1, h2, h3, h4, h5⟩ := h
  have e35 : ∀ j, up (up u 34 Q e) 35 n Q 35 j = if j = n then Q else u 35 j := fun j => up_i (up u 34 Q e) 35 n Q j
  have e34 : ∀ P, up (up u 34 Q e) 35 n Q 34 P = if P = Q then e else u 34 P := fun P => up_i u 34 Q e P
  have ne : ∀ j, 0 ≤ j → j < n → ¬ u 35 j = Q := by
    intro j j0 j1 z
    have := (h2 j j0 j1).2.1
    rw [z] at this
    omega
  have eC : ∀ P, cX (up (up u 34 Q e) 35 n Q) P = cX u P := fun _ => rfl
  have old : ∀ j, 0 ≤ j → j < n → up (up u 34 Q e) 35 n Q 34 (up (up u 34 Q e) 35 n Q 35 j) = u 34 (u 35 j) := by
    intro j j0 j1
    rw [e35, if_neg (by omega), e34, if_neg (ne j j0 j1)]
  have new : up (up u 34 Q e) 35 n Q 34 (up (up u 34 Q e) 35 n Q 35 n) = e := by rw [e35, if_pos rfl, e34, if_pos rfl]
  refine ⟨⟨by omega, ?_, ?_, ?_, ?_⟩, ?_, ?_, ?_⟩
  · intro j j0 j1
    by_cases q : j = n
    · subst q
      rw [new]
      have : up (up u 34 Q e) 35 j Q 35 j = Q := by rw [e35, if_pos rfl]
      rw [this]
      exact ⟨hQ, he, hr⟩
    · rw [old j j0 (by omega), e35, if_neg q]
      exact h2 j j0 (by omega)
  · intro j k j0 jk k1
    by_cases q : k = n
    · subst q
      rw [new, old j j0 jk]
      exact hle j j0 jk
    · rw [old j j0 (by omega), old k (by omega) (by omega)]
      exact h3 j k j0 jk (by omega)
  · intro P P0 P1
    by_cases q : P = Q
    · right
      exact ⟨n, by omega, by rw [e35, if_pos rfl, q]⟩
    · rw [e34, if_neg q]
      rcases h4 P P0 P1 with z | ⟨j, z1, z2⟩
      · exact Or.inl z
      · right
        exact ⟨j, by omega, by rw [e35, if_neg (by omega)]; exact z2⟩
  · refine Eq.trans ?_ (congrArg (fun z => z + 1) h5)
    refine smI_one (p := Q.toNat) 105 (by have := hQ.1; omega) (fun k k0 k1 kq => ?_) ?_
    · rw [e34, if_neg (show ¬ k = Q by have := hQ.1; omega)]
    · rw [show ((Q.toNat : Nat) : Int) = Q by have := hQ.1; omega, e34, if_pos rfl, if_neg (by omega), if_pos h9]
      rfl
  · intro j j1
    rw [e35, if_neg (by omega)]
  · intro P hP
    rw [e34, if_neg (fun z => hP (by rw [z]; exact h9))]
  · intro k k0 k1
    by_cases q : k = n
    · subst q; rw [new]; exact Int.le_refl _
    · rw [old k k0 (by omega)]; exact hle k k0 (by omega)
theorem BN_mono {u u' : St} {P m : Int} (h33 : u' 33 = u 33) (h31 : u' 31 = u 31) (h34 : ∀ Q, ¬ u 34 Q = -9 → u' 34 Q = u 34 Q) (hP : ¬ u 34 P = -9) (h : BN p u P m) : BN p u' P m := by
  have eC : ∀ Q, cX u' Q = cX u Q := fun Q => by unfold cX; rw [h31]
  intro i i0 i1 hi Q hQ ex ey
  rw [h33] at hi
  have hQ' : VP u p Q := by unfold VP at hQ ⊢; rw [← eC]; exact hQ
  rw [eC, eC] at ex
  have := h i i0 i1 hi Q hQ' ex ey
  rw [h34 Q this.1, h34 P hP]
  exact this
theorem BN_step {u : St} {P m : Int} (hm : 0 ≤ m) (h : BN p u P m) (hs : u 33 m = 1 → ∀ Q, VP u p Q → cX u Q = cX u P + m % 13 - 6 → cY Q = cY P + m / 13 - 2 → ¬ u 34 Q = -9 ∧ u 34 Q ≤ u 34 P + 1) : BN p u P (m + 1) := by
  intro i i0 i1 hi Q hQ ex ey
  by_cases q : i = m
  · rw [q] at hi ex ey
    exact hs hi Q hQ ex ey
  · exact h i i0 (by omega) hi Q hQ ex ey
/-- what the distances say -/
def DST (u : St) (pp ss XX YY : Int) : Prop := ∀ P, VP u pp P → (u 34 P = -9 ∧ ¬ rch pp ss XX YY 5 (cX u P) (cY P)) ∨ (∃ e : Nat, e ≤ 5 ∧ u 34 P = e ∧ lv pp ss XX YY e (cX u P) (cY P))
theorem BQ_end {u : St} {n first : Int} (hl : LY u p) (hT : inB p X Y) (hst : STb u set 400) (h : BQ p set X Y u n) (hf : VP u p first ∧ cX u first = X ∧ cY first = Y) (hf0 : u 34 first = 0) (hN : ∀ j, 0 ≤ j → j < n → u 34 (u 35 j) < 5 → BN p u (u 35 j) 65) : DST u p set X Y := by
  obtain ⟨h1, h2, h3, h4, h5⟩ := h
  have key : ∀ m : Nat, m ≤ 5 → ∀ P, VP u p P → rch p set X Y m (cX u P) (cY P) → ¬ u 34 P = -9 ∧ u 34 P ≤ m := by
    intro m
    induction m with
    | zero =>
      intro _ P hP hr
      have e : P = first := VP_one hP hf.1 (by rw [hf.2.1]; exact hr.1) (by rw [hf.2.2]; exact hr.2)
      rw [e, hf0]
      exact ⟨by omega, by omega⟩
    | succ m ih =>
      intro hm P hP hr
      rcases hr with hr | ⟨hb, c, hc, hs, hr⟩
      · have := ih (by omega) P hP hr
        exact ⟨this.1, by omega⟩
      · obtain ⟨P', v1, v2, v3⟩ := VP_of hl (rch_in hT m _ _ hr)
        have i1 := ih (by omega) P' v1 (by rw [v2, v3]; exact hr)
        rcases h4 P' v1.1.1 v1.1.2 with z | ⟨j, j1, j2⟩
        · exact absurd z i1.1
        · have sr := sI_rng hc
          have sd := sI_d hc rfl
          have s1 : u 33 (sI c) = 1 := by
            rcases hst (sI c) sr.1 sr.2 with z | z
            · exact z.1
            · exact absurd rfl (z.2 c hc.1 hc.2 hs)
          have bn := hN j j1.1 j1.2 (by rw [j2]; omega) (sI c) sr.1 sr.2 s1 P hP (by rw [j2, v2]; omega) (by rw [j2, v3]; omega)
          rw [j2] at bn
          exact ⟨bn.1, by omega⟩
  intro P hP
  by_cases q : u 34 P = -9
  · exact Or.inl ⟨q, fun z => (key 5 (by omega) P hP z).1 q⟩
  · right
    rcases h4 P hP.1.1 hP.1.2 with z | ⟨j, j1, j2⟩
    · exact absurd z q
    · obtain ⟨-, b2, b3⟩ := h2 j j1.1 j1.2
      rw [j2] at b2 b3
      refine ⟨(u 34 P).toNat, by omega, by omega, b3, fun d hd hr => ?_⟩
      have := (key d (by omega) P hP hr).2
      omega
theorem DST_is {u : St} {pp ss XX YY P : Int} (h : DST u pp ss XX YY) (hP : VP u pp P) {e : Nat} (he : e ≤ 5) : u 34 P = e ↔ lv pp ss XX YY e (cX u P) (cY P) := by
  rcases h P hP with ⟨q1, q2⟩ | ⟨d, d1, d2, d3⟩
  · constructor
    · intro z; omega
    · intro z; exact absurd (rch_mono he z.1) q2
  · constructor
    · intro z
      rw [show e = d by omega]; exact d3
    · intro z
      rw [lv_one z d3]; exact d2
end BQ
/-! from p to q -/
theorem pU_mul {a b c d : Int} (ha : 0 ≤ a) (hb : 0 ≤ b) (hc : 0 ≤ c) (hd : 0 ≤ d) : pU a b * pU (-(a - c)) (-(b - d)) = pU c d * pU (a - c) (b - d) := by
  unfold pU
  have e2 : a.toNat + (-(a - c)).toNat = c.toNat + (a - c).toNat := by omega
  have e3 : b.toNat + (-(b - d)).toNat = d.toNat + (b - d).toNat := by omega
  have l : (2 : Int) ^ a.toNat * 3 ^ b.toNat * (2 ^ (-(a - c)).toNat * 3 ^ (-(b - d)).toNat) = 2 ^ (a.toNat + (-(a - c)).toNat) * 3 ^ (b.toNat + (-(b - d)).toNat) := by
    simp only [Int.pow_add]; ac_rfl
  have r : (2 : Int) ^ c.toNat * 3 ^ d.toNat * (2 ^ (a - c).toNat * 3 ^ (b - d).toNat) = 2 ^ (c.toNat + (a - c).toNat) * 3 ^ (d.toNat + (b - d).toNat) := by
    simp only [Int.pow_add]; ac_rfl
  rw [l, r, e2, e3]
theorem TG_of {p q : Int} (hp : 20 ≤ p ∧ p ≤ 400) (hq : 20 ≤ q ∧ q ≤ 400) (e : rsF p = rsF q) : TG p q (tin 2 q - tin 2 p) (tin 3 q - tin 3 p) := by
  obtain ⟨p1, p2, p3, -⟩ := tin_all hp
  obtain ⟨q1, q2, q3, -⟩ := tin_all hq
  unfold TG
  have m := pU_mul (a := tin 2 q) (b := tin 3 q) (c := tin 2 p) (d := tin 3 p) q1.1 q2.1 p1.1 p2.1
  calc q * pU (-(tin 2 q - tin 2 p)) (-(tin 3 q - tin 3 p)) = rsF q * pU (tin 2 q) (tin 3 q) * pU (-(tin 2 q - tin 2 p)) (-(tin 3 q - tin 3 p)) := by rw [← q3]
    _ = rsF q * (pU (tin 2 q) (tin 3 q) * pU (-(tin 2 q - tin 2 p)) (-(tin 3 q - tin 3 p))) := by ac_rfl
    _ = rsF p * (pU (tin 2 p) (tin 3 p) * pU (tin 2 q - tin 2 p) (tin 3 q - tin 3 p)) := by rw [m, e]
    _ = rsF p * pU (tin 2 p) (tin 3 p) * pU (tin 2 q - tin 2 p) (tin 3 q - tin 3 p) := by ac_rfl
    _ = p * pU (tin 2 q - tin 2 p) (tin 3 q - tin 3 p) := by rw [← p3]
theorem cop6 {r : Nat} (h : Nat.gcd r 6 = 1) (X Y : Int) : Nat.Coprime r (pN X Y) := by
  have c2 : Nat.Coprime r 2 := Nat.Coprime.coprime_dvd_right (⟨3, rfl⟩ : 2 ∣ 6) h
  have c3 : Nat.Coprime r 3 := Nat.Coprime.coprime_dvd_right (⟨2, rfl⟩ : 3 ∣ 6) h
  exact Nat.Coprime.mul_right (Nat.Coprime.pow_right _ c2) (Nat.Coprime.pow_right _ c3)
theorem TG_rs {p q X Y : Int} (hp : 20 ≤ p ∧ p ≤ 400) (hq : 20 ≤ q ∧ q ≤ 400) (h : TG p q X Y) : rsF p = rsF q := by
  obtain ⟨p1, p2, p3, p4, p5⟩ := tin_all hp
  obtain ⟨q1, q2, q3, q4, q5⟩ := tin_all hq
  unfold TG at h
  obtain ⟨r, hr⟩ : ∃ r : Nat, rsF p = r := ⟨(rsF p).toNat, by omega⟩
  obtain ⟨s, hs⟩ : ∃ s : Nat, rsF q = s := ⟨(rsF q).toNat, by omega⟩
  rw [hr] at p3 p5
  rw [hs] at q3 q5
  rw [Int.toNat_natCast] at p5 q5
  have e : (s * pN (tin 2 q) (tin 3 q)) * pN (-X) (-Y) = (r * pN (tin 2 p) (tin 3 p)) * pN X Y := by
    have : (((s * pN (tin 2 q) (tin 3 q)) * pN (-X) (-Y) : Nat) : Int) = (((r * pN (tin 2 p) (tin 3 p)) * pN X Y : Nat) : Int) := by
      rw [Int.natCast_mul, Int.natCast_mul, Int.natCast_mul, Int.natCast_mul, ← pU_N, ← pU_N, ← pU_N, ← pU_N]
      rw [← p3, ← q3]
      exact h
    exact Int.ofNat.inj this
  have d1 : s ∣ r := by
    have : s ∣ r * (pN (tin 2 p) (tin 3 p) * pN X Y) := ⟨pN (tin 2 q) (tin 3 q) * pN (-X) (-Y), by rw [← Nat.mul_assoc, ← Nat.mul_assoc]; exact e.symm⟩
    exact Nat.Coprime.dvd_of_dvd_mul_right (Nat.Coprime.mul_right (cop6 q5 _ _) (cop6 q5 _ _)) this
  have d2 : r ∣ s := by
    have : r ∣ s * (pN (tin 2 q) (tin 3 q) * pN (-X) (-Y)) := ⟨pN (tin 2 p) (tin 3 p) * pN X Y, by rw [← Nat.mul_assoc, ← Nat.mul_assoc]; exact e⟩
    exact Nat.Coprime.dvd_of_dvd_mul_right (Nat.Coprime.mul_right (cop6 p5 _ _) (cop6 p5 _ _)) this
  rw [hr, hs, Nat.dvd_antisymm d2 d1]
