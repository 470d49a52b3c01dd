/-! ===== pure: what TIES make of SECTIONS ===== -/
theorem iXor_toNat (a b : Int) : (iXor a b).toNat = a.toNat ^^^ b.toNat := by simp [iXor]
theorem iXor_nn (a b : Int) : 0 ≤ iXor a b := Int.natCast_nonneg _
theorem iXor_comm (a b : Int) : iXor a b = iXor b a := by simp [iXor, Nat.xor_comm]
theorem iXor_self (a : Int) : iXor a a = 0 := by simp [iXor]
theorem iXor_both (a b c : Int) : iXor (iXor a c) (iXor b c) = iXor a b := by
  unfold iXor
  simp only [Int.toNat_natCast]
  rw [Nat.xor_assoc, Nat.xor_comm c.toNat, Nat.xor_assoc, Nat.xor_self, Nat.xor_zero]
theorem iXor_new (a b d : Int) (hd : 0 ≤ d) : iXor a (iXor b (iXor (iXor a b) d)) = d := by
  unfold iXor
  simp only [Int.toNat_natCast]
  have : a.toNat ^^^ (b.toNat ^^^ (a.toNat ^^^ b.toNat ^^^ d.toNat)) = d.toNat := by
    rw [Nat.xor_assoc a.toNat, ← Nat.xor_assoc b.toNat a.toNat, Nat.xor_comm b.toNat a.toNat, Nat.xor_assoc a.toNat b.toNat, ← Nat.xor_assoc b.toNat b.toNat, Nat.xor_self, Nat.zero_xor, ← Nat.xor_assoc, Nat.xor_self, Nat.zero_xor]
  rw [this]
  omega
theorem iXor_lt {a b : Int} {n : Nat} (ha : a < 2 ^ n) (hb : b < 2 ^ n) : iXor a b < 2 ^ n := by
  have h1 : a.toNat < 2 ^ n := by
    have : ((2 ^ n : Nat) : Int) = 2 ^ n := by push_cast; rfl
    have : 0 < 2 ^ n := Nat.pow_pos (by omega)
    omega
  have h2 : b.toNat < 2 ^ n := by
    have : ((2 ^ n : Nat) : Int) = 2 ^ n := by push_cast; rfl
    have : 0 < 2 ^ n := Nat.pow_pos (by omega)
    omega
  have h3 := Nat.xor_lt_two_pow h1 h2
  unfold iXor
  exact_mod_cast h3
section JS
variable (a v b w : Int → Int)
/-- of n TIES: the least SECTION joined (0), exponents of 2 (1) and 3 (2), the route (3), by SECTION -/
def jS : Nat → Nat → Int → Int
  | 0 => fun c s => if c = 0 then s else 0
  | n + 1 => fun c s =>
    if jS n 0 (a n) = jS n 0 (b n) then jS n c s
    else if c = 0 then (if jS n 0 s = jS n 0 (b n) then min (jS n 0 (a n)) (jS n 0 (b n)) else if jS n 0 s = jS n 0 (a n) then min (jS n 0 (a n)) (jS n 0 (b n)) else jS n 0 s)
    else if c = 1 then (if jS n 0 s = jS n 0 (b n) then jS n 1 s + (jS n 1 (a n) + (tw (w n) - tw (v n)) - jS n 1 (b n)) else jS n 1 s)
    else if c = 2 then (if jS n 0 s = jS n 0 (b n) then jS n 2 s + (jS n 2 (a n) + (th (w n) - th (v n)) - jS n 2 (b n)) else jS n 2 s)
    else (if jS n 0 s = jS n 0 (b n) then iXor (jS n 3 s) (iXor (iXor (jS n 3 (a n)) (jS n 3 (b n))) (2 ^ n)) else jS n 3 s)
/-- what TIE n is: 0 kept, 1 spare, 2 it clashes -/
def jK (n : Nat) : Int := if jS a v b w n 0 (a n) = jS a v b w n 0 (b n) then (if jS a v b w n 1 (b n) - jS a v b w n 1 (a n) = tw (w n) - tw (v n) ∧ jS a v b w n 2 (b n) - jS a v b w n 2 (a n) = th (w n) - th (v n) then 1 else 2) else 0
def tOk (N : Nat) : Prop := ∀ k : Nat, k < N → (0 ≤ a k ∧ a k < 7) ∧ (0 ≤ b k ∧ b k < 7) ∧ (0 ≤ v k ∧ v k < 20) ∧ (0 ≤ w k ∧ w k < 20)
variable {a v b w}
theorem jS_z (s : Int) : jS a v b w 0 0 s = s ∧ jS a v b w 0 1 s = 0 ∧ jS a v b w 0 2 s = 0 ∧ jS a v b w 0 3 s = 0 := ⟨rfl, rfl, rfl, rfl⟩
theorem jS_same {n : Nat} (h : jS a v b w n 0 (a n) = jS a v b w n 0 (b n)) (c : Nat) (s : Int) : jS a v b w (n + 1) c s = jS a v b w n c s := by
  show (if _ then _ else _) = _
  rw [if_pos h]
theorem jS_k0 {n : Nat} (h : ¬ jS a v b w n 0 (a n) = jS a v b w n 0 (b n)) (s : Int) : jS a v b w (n + 1) 0 s = if jS a v b w n 0 s = jS a v b w n 0 (b n) then min (jS a v b w n 0 (a n)) (jS a v b w n 0 (b n)) else if jS a v b w n 0 s = jS a v b w n 0 (a n) then min (jS a v b w n 0 (a n)) (jS a v b w n 0 (b n)) else jS a v b w n 0 s := by
  show (if _ then _ else _) = _
  rw [if_neg h]
  rfl
theorem jS_k1 {n : Nat} (h : ¬ jS a v b w n 0 (a n) = jS a v b w n 0 (b n)) (s : Int) : jS a v b w (n + 1) 1 s = if jS a v b w n 0 s = jS a v b w n 0 (b n) then jS a v b w n 1 s + (jS a v b w n 1 (a n) + (tw (w n) - tw (v n)) - jS a v b w n 1 (b n)) else jS a v b w n 1 s := by
  show (if _ then _ else _) = _
  rw [if_neg h]
  rfl
theorem jS_k2 {n : Nat} (h : ¬ jS a v b w n 0 (a n) = jS a v b w n 0 (b n)) (s : Int) : jS a v b w (n + 1) 2 s = if jS a v b w n 0 s = jS a v b w n 0 (b n) then jS a v b w n 2 s + (jS a v b w n 2 (a n) + (th (w n) - th (v n)) - jS a v b w n 2 (b n)) else jS a v b w n 2 s := by
  show (if _ then _ else _) = _
  rw [if_neg h]
  rfl
theorem jS_k3 {n : Nat} (h : ¬ jS a v b w n 0 (a n) = jS a v b w n 0 (b n)) (s : Int) : jS a v b w (n + 1) 3 s = if jS a v b w n 0 s = jS a v b w n 0 (b n) then iXor (jS a v b w n 3 s) (iXor (iXor (jS a v b w n 3 (a n)) (jS a v b w n 3 (b n))) (2 ^ n)) else jS a v b w n 3 s := by
  show (if _ then _ else _) = _
  rw [if_neg h]
  rfl
/-- kept: not joined ahead of it -/
theorem jK_0 {n : Nat} : jK a v b w n = 0 ↔ ¬ jS a v b w n 0 (a n) = jS a v b w n 0 (b n) := by
  unfold jK
  by_cases h : jS a v b w n 0 (a n) = jS a v b w n 0 (b n)
  · rw [if_pos h]
    constructor
    · intro q
      by_cases h2 : jS a v b w n 1 (b n) - jS a v b w n 1 (a n) = tw (w n) - tw (v n) ∧ jS a v b w n 2 (b n) - jS a v b w n 2 (a n) = th (w n) - th (v n)
      · rw [if_pos h2] at q; omega
      · rw [if_neg h2] at q; omega
    · intro q; exact absurd h q
  · rw [if_neg h]
    exact ⟨fun _ => h, fun _ => rfl⟩
theorem jK_rng (n : Nat) : 0 ≤ jK a v b w n ∧ jK a v b w n ≤ 2 := by
  unfold jK
  by_cases h : jS a v b w n 0 (a n) = jS a v b w n 0 (b n)
  · rw [if_pos h]
    by_cases h2 : jS a v b w n 1 (b n) - jS a v b w n 1 (a n) = tw (w n) - tw (v n) ∧ jS a v b w n 2 (b n) - jS a v b w n 2 (a n) = th (w n) - th (v n)
    · rw [if_pos h2]; omega
    · rw [if_neg h2]; omega
  · rw [if_neg h]; omega
/-- the least one is no greater -/
theorem jS_le {N : Nat} (h : tOk a v b w N) : ∀ n : Nat, n ≤ N → ∀ s : Int, 0 ≤ s ∧ s < 7 → 0 ≤ jS a v b w n 0 s ∧ jS a v b w n 0 s ≤ s := by
  intro n
  induction n with
  | zero => intro _ s hs; rw [(jS_z s).1]; omega
  | succ n ih =>
    intro hn s hs
    have i1 := ih (by omega) s hs
    have i2 := ih (by omega) (a n) (h n (by omega)).1
    have i3 := ih (by omega) (b n) (h n (by omega)).2.1
    by_cases hk : jS a v b w n 0 (a n) = jS a v b w n 0 (b n)
    · rw [jS_same hk]; exact i1
    · rw [jS_k0 hk]
      by_cases h1 : jS a v b w n 0 s = jS a v b w n 0 (b n)
      · rw [if_pos h1]; omega
      · rw [if_neg h1]
        by_cases h2 : jS a v b w n 0 s = jS a v b w n 0 (a n)
        · rw [if_pos h2]; omega
        · rw [if_neg h2]; exact i1
/-- what is joined stays so, at the same distance, by the same route -/
theorem jS_stay {x y : Int} {k : Nat} (h : jS a v b w k 0 x = jS a v b w k 0 y) : ∀ d : Nat, jS a v b w (k + d) 0 x = jS a v b w (k + d) 0 y ∧ jS a v b w (k + d) 1 x - jS a v b w (k + d) 1 y = jS a v b w k 1 x - jS a v b w k 1 y ∧ jS a v b w (k + d) 2 x - jS a v b w (k + d) 2 y = jS a v b w k 2 x - jS a v b w k 2 y ∧ iXor (jS a v b w (k + d) 3 x) (jS a v b w (k + d) 3 y) = iXor (jS a v b w k 3 x) (jS a v b w k 3 y) := by
  intro d
  induction d with
  | zero => exact ⟨h, rfl, rfl, rfl⟩
  | succ d ih =>
    obtain ⟨i0, i1, i2, i3⟩ := ih
    rw [show k + (d + 1) = (k + d) + 1 from rfl]
    generalize k + d = n at *
    by_cases hk : jS a v b w n 0 (a n) = jS a v b w n 0 (b n)
    · simp only [jS_same hk]; exact ⟨i0, i1, i2, i3⟩
    · rw [jS_k0 hk, jS_k0 hk, jS_k1 hk, jS_k1 hk, jS_k2 hk, jS_k2 hk, jS_k3 hk, jS_k3 hk, i0]
      refine ⟨rfl, ?_⟩
      by_cases h1 : jS a v b w n 0 y = jS a v b w n 0 (b n)
      · simp only [if_pos h1]
        refine ⟨by omega, by omega, ?_⟩
        rw [iXor_both]; exact i3
      · simp only [if_neg h1]
        exact ⟨i1, i2, i3⟩
theorem jS_stays {x y : Int} {k n : Nat} (hkn : k ≤ n) (h : jS a v b w k 0 x = jS a v b w k 0 y) : jS a v b w n 0 x = jS a v b w n 0 y ∧ jS a v b w n 1 x - jS a v b w n 1 y = jS a v b w k 1 x - jS a v b w k 1 y ∧ jS a v b w n 2 x - jS a v b w n 2 y = jS a v b w k 2 x - jS a v b w k 2 y ∧ iXor (jS a v b w n 3 x) (jS a v b w n 3 y) = iXor (jS a v b w k 3 x) (jS a v b w k 3 y) := by
  obtain ⟨d, rfl⟩ : ∃ d, n = k + d := ⟨n - k, by omega⟩
  exact jS_stay h d
/-- a kept TIE joins its SECTIONS, at its own distance, and is its own route -/
theorem jS_kept {k n : Nat} (hk : k < n) (h : jK a v b w k = 0) : jS a v b w n 0 (a k) = jS a v b w n 0 (b k) ∧ jS a v b w n 1 (b k) - jS a v b w n 1 (a k) = tw (w k) - tw (v k) ∧ jS a v b w n 2 (b k) - jS a v b w n 2 (a k) = th (w k) - th (v k) ∧ iXor (jS a v b w n 3 (a k)) (jS a v b w n 3 (b k)) = 2 ^ k := by
  have h0 := jK_0.mp h
  have e0 : jS a v b w (k + 1) 0 (a k) = jS a v b w (k + 1) 0 (b k) := by
    rw [jS_k0 h0, jS_k0 h0, if_neg h0, if_pos rfl, if_pos rfl]
  obtain ⟨s0, s1, s2, s3⟩ := jS_stays (n := n) (by omega) e0
  rw [jS_k1 h0, jS_k1 h0, if_neg h0, if_pos rfl] at s1
  rw [jS_k2 h0, jS_k2 h0, if_neg h0, if_pos rfl] at s2
  rw [jS_k3 h0, jS_k3 h0, if_neg h0, if_pos rfl, iXor_new _ _ _ (Int.pow_nonneg (by omega))] at s3
  exact ⟨s0, by omega, by omega, s3⟩
/-- a set that no kept TIE leaves holds joined SECTIONS together -/
theorem jS_close (V : Int → Prop) : ∀ n : Nat, (∀ k : Nat, k < n → jK a v b w k = 0 → (V (a k) ↔ V (b k))) → ∀ x y : Int, jS a v b w n 0 x = jS a v b w n 0 y → (V x ↔ V y) := by
  intro n
  induction n with
  | zero => intro _ x y h; rw [(jS_z x).1, (jS_z y).1] at h; rw [h]
  | succ n ih =>
    intro hV x y h
    have ih := ih (fun k hk => hV k (by omega))
    by_cases hk : jS a v b w n 0 (a n) = jS a v b w n 0 (b n)
    · rw [jS_same hk, jS_same hk] at h
      exact ih x y h
    · have hn := hV n (by omega) (jK_0.mpr hk)
      have key : ∀ z : Int, (jS a v b w n 0 z = jS a v b w n 0 (b n) ∨ jS a v b w n 0 z = jS a v b w n 0 (a n)) → (V z ↔ V (b n)) := by
        intro z hz
        rcases hz with hz | hz
        · exact ih z (b n) hz
        · exact (ih z (a n) hz).trans hn
      rw [jS_k0 hk, jS_k0 hk] at h
      have mn : min (jS a v b w n 0 (a n)) (jS a v b w n 0 (b n)) = jS a v b w n 0 (a n) ∨ min (jS a v b w n 0 (a n)) (jS a v b w n 0 (b n)) = jS a v b w n 0 (b n) := by omega
      by_cases x1 : jS a v b w n 0 x = jS a v b w n 0 (b n)
      · rw [if_pos x1] at h
        by_cases y1 : jS a v b w n 0 y = jS a v b w n 0 (b n)
        · exact ih x y (by rw [x1, y1])
        · rw [if_neg y1] at h
          by_cases y2 : jS a v b w n 0 y = jS a v b w n 0 (a n)
          · exact (key x (Or.inl x1)).trans (key y (Or.inr y2)).symm
          · rw [if_neg y2] at h
            omega
      · rw [if_neg x1] at h
        by_cases x2 : jS a v b w n 0 x = jS a v b w n 0 (a n)
        · rw [if_pos x2] at h
          by_cases y1 : jS a v b w n 0 y = jS a v b w n 0 (b n)
          · exact (key x (Or.inr x2)).trans (key y (Or.inl y1)).symm
          · rw [if_neg y1] at h
            by_cases y2 : jS a v b w n 0 y = jS a v b w n 0 (a n)
            · exact ih x y (by rw [x2, y2])
            · rw [if_neg y2] at h
              omega
        · rw [if_neg x2] at h
          by_cases y1 : jS a v b w n 0 y = jS a v b w n 0 (b n)
          · rw [if_pos y1] at h
            omega
          · rw [if_neg y1] at h
            by_cases y2 : jS a v b w n 0 y = jS a v b w n 0 (a n)
            · rw [if_pos y2] at h
              omega
            · rw [if_neg y2] at h
              exact ih x y h
/-- routes are sets of the first TIES -/
theorem jS_rt : ∀ (n : Nat) (s : Int), 0 ≤ jS a v b w n 3 s ∧ jS a v b w n 3 s < 2 ^ n := by
  intro n
  induction n with
  | zero => intro s; rw [(jS_z s).2.2.2]; exact ⟨by omega, by decide⟩
  | succ n ih =>
    intro s
    have e2 : (2 : Int) ^ (n + 1) = 2 ^ n * 2 := Int.pow_succ _ _
    have p0 : (0 : Int) < 2 ^ n := Int.pow_pos (by omega)
    have lift : ∀ x : Int, x < 2 ^ n → x < 2 ^ (n + 1) := fun x hx => by omega
    by_cases hk : jS a v b w n 0 (a n) = jS a v b w n 0 (b n)
    · rw [jS_same hk]; exact ⟨(ih s).1, lift _ (ih s).2⟩
    · rw [jS_k3 hk]
      by_cases h1 : jS a v b w n 0 s = jS a v b w n 0 (b n)
      · rw [if_pos h1]
        refine ⟨iXor_nn _ _, iXor_lt (lift _ (ih s).2) (iXor_lt (iXor_lt (lift _ (ih _).2) (lift _ (ih _).2)) (by omega))⟩
      · rw [if_neg h1]; exact ⟨(ih s).1, lift _ (ih s).2⟩
end JS
/-- how many of the 7 have c -/
def sz7 (f : Int → Int) (c : Int) : Int := (if f 0 = c then 1 else 0) + (if f 1 = c then 1 else 0) + (if f 2 = c then 1 else 0) + (if f 3 = c then 1 else 0) + (if f 4 = c then 1 else 0) + (if f 5 = c then 1 else 0) + (if f 6 = c then 1 else 0)
theorem sz7_one {f : Int → Int} {c s : Int} (hs : 0 ≤ s ∧ s < 7) (h : f s = c) : 1 ≤ sz7 f c := by
  unfold sz7
  rcases (show s = 0 ∨ s = 1 ∨ s = 2 ∨ s = 3 ∨ s = 4 ∨ s = 5 ∨ s = 6 by omega) with rfl | rfl | rfl | rfl | rfl | rfl | rfl <;> (rw [if_pos h]; repeat' split) <;> omega
theorem sz7_le (f : Int → Int) (c : Int) : sz7 f c ≤ 7 := by
  unfold sz7
  repeat' split
  all_goals omega
theorem sz7_ext {f g : Int → Int} {c d : Int} (h : ∀ s, 0 ≤ s ∧ s < 7 → (f s = c ↔ g s = d)) : sz7 f c = sz7 g d := by
  unfold sz7
  have e : ∀ s, 0 ≤ s ∧ s < 7 → (if f s = c then (1 : Int) else 0) = if g s = d then 1 else 0 := by
    intro s hs
    by_cases q : f s = c
    · rw [if_pos q, if_pos ((h s hs).mp q)]
    · rw [if_neg q, if_neg (fun z => q ((h s hs).mpr z))]
  rw [e 0 (by omega), e 1 (by omega), e 2 (by omega), e 3 (by omega), e 4 (by omega), e 5 (by omega), e 6 (by omega)]
theorem sz7_two {f g : Int → Int} {c d t : Int} (hcd : c ≠ d) (h : ∀ s, 0 ≤ s ∧ s < 7 → (g s = t ↔ f s = c ∨ f s = d)) : sz7 g t = sz7 f c + sz7 f d := by
  unfold sz7
  have e : ∀ s, 0 ≤ s ∧ s < 7 → (if g s = t then (1 : Int) else 0) = (if f s = c then 1 else 0) + if f s = d then 1 else 0 := by
    intro s hs
    by_cases q : f s = c
    · rw [if_pos ((h s hs).mpr (Or.inl q)), if_pos q, if_neg (fun z => hcd (q.symm.trans z))]
      rfl
    · by_cases r : f s = d
      · rw [if_pos ((h s hs).mpr (Or.inr r)), if_neg q, if_pos r]
        rfl
      · rw [if_neg (fun z => ((h s hs).mp z).elim q r), if_neg q, if_neg r]
        rfl
  rw [e 0 (by omega), e 1 (by omega), e 2 (by omega), e 3 (by omega), e 4 (by omega), e 5 (by omega), e 6 (by omega)]
  omega
section JS2
variable {a v b w : Int → Int}
/-- joined SECTIONS are not far from one another -/
theorem jS_near {N : Nat} (h : tOk a v b w N) : ∀ n : Nat, n ≤ N → ∀ x y : Int, 0 ≤ x ∧ x < 7 → 0 ≤ y ∧ y < 7 → jS a v b w n 0 x = jS a v b w n 0 y →
    ((jS a v b w n 1 x + jS a v b w n 2 x) - (jS a v b w n 1 y + jS a v b w n 2 y) ≤ 4 * (sz7 (jS a v b w n 0) (jS a v b w n 0 x) - 1)) ∧ (jS a v b w n 2 x - jS a v b w n 2 y ≤ 2 * (sz7 (jS a v b w n 0) (jS a v b w n 0 x) - 1)) := by
  intro n
  induction n with
  | zero =>
    intro _ x y hx hy e
    have h1 := sz7_one (f := jS a v b w 0 0) hx rfl
    rw [(jS_z x).2.1, (jS_z x).2.2.1, (jS_z y).2.1, (jS_z y).2.2.1]
    omega
  | succ n ih =>
    intro hn x y hx hy e
    have ih := ih (by omega)
    obtain ⟨ha, hb, hv, hw⟩ := h n (by omega)
    by_cases hk : jS a v b w n 0 (a n) = jS a v b w n 0 (b n)
    · have e0 : jS a v b w (n + 1) 0 = jS a v b w n 0 := funext (fun s => jS_same hk 0 s)
      rw [e0, jS_same hk, jS_same hk, jS_same hk, jS_same hk] at *
      exact ih x y hx hy e
    · have tv := tw_rng hv
      have tww := tw_rng hw
      have sA := sz7_one (f := jS a v b w n 0) ha rfl
      have sB := sz7_one (f := jS a v b w n 0) hb rfl
      have mn : min (jS a v b w n 0 (a n)) (jS a v b w n 0 (b n)) = jS a v b w n 0 (a n) ∨ min (jS a v b w n 0 (a n)) (jS a v b w n 0 (b n)) = jS a v b w n 0 (b n) := by omega
      have hT : ∀ s, jS a v b w (n + 1) 0 s = min (jS a v b w n 0 (a n)) (jS a v b w n 0 (b n)) ↔ jS a v b w n 0 s = jS a v b w n 0 (a n) ∨ jS a v b w n 0 s = jS a v b w n 0 (b n) := by
        intro s
        rw [jS_k0 hk]
        by_cases q1 : jS a v b w n 0 s = jS a v b w n 0 (b n)
        · rw [if_pos q1]; exact ⟨fun _ => Or.inr q1, fun _ => rfl⟩
        · rw [if_neg q1]
          by_cases q2 : jS a v b w n 0 s = jS a v b w n 0 (a n)
          · rw [if_pos q2]; exact ⟨fun _ => Or.inl q2, fun _ => rfl⟩
          · rw [if_neg q2]
            exact ⟨fun z => by omega, fun z => by omega⟩
      have hsum := sz7_two (f := jS a v b w n 0) (g := jS a v b w (n + 1) 0) hk (fun s _ => hT s)
      by_cases hx0 : jS a v b w n 0 x = jS a v b w n 0 (a n) ∨ jS a v b w n 0 x = jS a v b w n 0 (b n)
      · have ex := (hT x).mpr hx0
        have hy0 := (hT y).mp (by rw [← e]; exact ex)
        rw [ex, hsum]
        rw [jS_k1 hk, jS_k2 hk, jS_k1 hk, jS_k2 hk]
        by_cases x1 : jS a v b w n 0 x = jS a v b w n 0 (b n)
        · by_cases y1 : jS a v b w n 0 y = jS a v b w n 0 (b n)
          · have i1 := ih x y hx hy (by rw [x1, y1])
            rw [x1] at i1
            simp only [if_pos x1, if_pos y1]
            omega
          · have y2 : jS a v b w n 0 y = jS a v b w n 0 (a n) := hy0.resolve_right y1
            have i1 := ih x (b n) hx hb x1
            have i2 := ih (a n) y ha hy y2.symm
            rw [x1] at i1
            simp only [if_pos x1, if_neg y1]
            omega
        · have x2 : jS a v b w n 0 x = jS a v b w n 0 (a n) := hx0.resolve_right x1
          by_cases y1 : jS a v b w n 0 y = jS a v b w n 0 (b n)
          · have i1 := ih x (a n) hx ha x2
            have i2 := ih (b n) y hb hy y1.symm
            rw [x2] at i1
            simp only [if_neg x1, if_pos y1]
            omega
          · have y2 : jS a v b w n 0 y = jS a v b w n 0 (a n) := hy0.resolve_right y1
            have i1 := ih x y hx hy (by rw [x2, y2])
            rw [x2] at i1
            simp only [if_neg x1, if_neg y1]
            omega
      · have x1 : ¬ jS a v b w n 0 x = jS a v b w n 0 (b n) := fun q => hx0 (Or.inr q)
        have x2 : ¬ jS a v b w n 0 x = jS a v b w n 0 (a n) := fun q => hx0 (Or.inl q)
        have ex : jS a v b w (n + 1) 0 x = jS a v b w n 0 x := by rw [jS_k0 hk, if_neg x1, if_neg x2]
        have hy0 : ¬ (jS a v b w n 0 y = jS a v b w n 0 (a n) ∨ jS a v b w n 0 y = jS a v b w n 0 (b n)) := by
          intro q
          have := (hT y).mpr q
          rw [← e] at this
          exact hx0 ((hT x).mp this)
        have y1 : ¬ jS a v b w n 0 y = jS a v b w n 0 (b n) := fun q => hy0 (Or.inr q)
        have y2 : ¬ jS a v b w n 0 y = jS a v b w n 0 (a n) := fun q => hy0 (Or.inl q)
        have ey : jS a v b w (n + 1) 0 y = jS a v b w n 0 y := by rw [jS_k0 hk, if_neg y1, if_neg y2]
        have es : sz7 (jS a v b w (n + 1) 0) (jS a v b w n 0 x) = sz7 (jS a v b w n 0) (jS a v b w n 0 x) := by
          refine sz7_ext (fun s _ => ?_)
          by_cases q : jS a v b w n 0 s = jS a v b w n 0 (a n) ∨ jS a v b w n 0 s = jS a v b w n 0 (b n)
          · have := (hT s).mpr q
            constructor
            · intro z; rw [this] at z; omega
            · intro z; rw [z] at q; exact absurd q hx0
          · have s1 : ¬ jS a v b w n 0 s = jS a v b w n 0 (b n) := fun z => q (Or.inr z)
            have s2 : ¬ jS a v b w n 0 s = jS a v b w n 0 (a n) := fun z => q (Or.inl z)
            rw [jS_k0 hk, if_neg s1, if_neg s2]
        have i1 := ih x y hx hy (by rw [← ex, ← ey]; exact e)
        rw [ex, es, jS_k1 hk, jS_k2 hk, jS_k1 hk, jS_k2 hk]
        simp only [if_neg x1, if_neg y1]
        exact i1
theorem jS_bd {N n : Nat} (h : tOk a v b w N) (hn : n ≤ N) {x y : Int} (hx : 0 ≤ x ∧ x < 7) (hy : 0 ≤ y ∧ y < 7) (e : jS a v b w n 0 x = jS a v b w n 0 y) :
    (-24 ≤ (jS a v b w n 1 x - jS a v b w n 1 y) + (jS a v b w n 2 x - jS a v b w n 2 y) ∧ (jS a v b w n 1 x - jS a v b w n 1 y) + (jS a v b w n 2 x - jS a v b w n 2 y) ≤ 24) ∧ (-12 ≤ jS a v b w n 2 x - jS a v b w n 2 y ∧ jS a v b w n 2 x - jS a v b w n 2 y ≤ 12) := by
  have h1 := jS_near h n hn x y hx hy e
  have h2 := jS_near h n hn y x hy hx e.symm
  have h3 := sz7_le (jS a v b w n 0) (jS a v b w n 0 x)
  have h4 := sz7_le (jS a v b w n 0) (jS a v b w n 0 y)
  omega
/-- the numbers themselves stay small -/
theorem jS_abs {N : Nat} (h : tOk a v b w N) : ∀ n : Nat, n ≤ N → ∀ s : Int, 0 ≤ s ∧ s < 7 → (-(3 ^ (n + 1)) ≤ jS a v b w n 1 s - 3 ∧ jS a v b w n 1 s ≤ 3 ^ (n + 1) - 3) ∧ (-(3 ^ (n + 1)) ≤ jS a v b w n 2 s - 3 ∧ jS a v b w n 2 s ≤ 3 ^ (n + 1) - 3) := by
  intro n
  induction n with
  | zero => intro _ s _; rw [(jS_z s).2.1, (jS_z s).2.2.1]; omega
  | succ n ih =>
    intro hn s hs
    obtain ⟨ha, hb, hv, hw⟩ := h n (by omega)
    have i1 := ih (by omega) s hs
    have i2 := ih (by omega) (a n) ha
    have i3 := ih (by omega) (b n) hb
    have tv := tw_rng hv
    have tww := tw_rng hw
    have e2 : (3 : Int) ^ (n + 1 + 1) = 3 ^ (n + 1) * 3 := Int.pow_succ _ _
    have p0 : (0 : Int) < 3 ^ (n + 1) := Int.pow_pos (by omega)
    by_cases hk : jS a v b w n 0 (a n) = jS a v b w n 0 (b n)
    · rw [jS_same hk, jS_same hk]; omega
    · rw [jS_k1 hk, jS_k2 hk]
      by_cases h1 : jS a v b w n 0 s = jS a v b w n 0 (b n)
      · simp only [if_pos h1]; omega
      · simp only [if_neg h1]; omega
theorem jS_abs12 {N n : Nat} (h : tOk a v b w N) (hn : n ≤ N) (hN : N ≤ 12) {s : Int} (hs : 0 ≤ s ∧ s < 7) : (-2000000 ≤ jS a v b w n 1 s ∧ jS a v b w n 1 s ≤ 2000000) ∧ (-2000000 ≤ jS a v b w n 2 s ∧ jS a v b w n 2 s ≤ 2000000) := by
  have h1 := jS_abs h n hn s hs
  have h2 := (pow_le3 (n := n + 1) (k := 13) (by omega)).2
  have h3 : (3 : Int) ^ 13 = 1594323 := by decide
  omega
end JS2
