/-! ===== pure: marks, the clock ===== -/
/-- where a new MARK goes: behind those that are no greater -/
def insP (mk : Int → Int) (m : Int) : Nat → Int
  | 0 => 0
  | n + 1 => if mk n ≤ m then ((n + 1 : Nat) : Int) else insP mk m n
def insM (mk : Int → Int) (m nM : Int) : Int → Int := fun i => if i = insP mk m nM.toNat then m else if insP mk m nM.toNat < i ∧ i ≤ nM then mk (i - 1) else mk i
def delM (mk : Int → Int) (p nM : Int) : Int → Int := fun i => if p ≤ i ∧ i < nM - 1 then mk (i + 1) else mk i
theorem insP_rng (mk : Int → Int) (m : Int) : ∀ n : Nat, 0 ≤ insP mk m n ∧ insP mk m n ≤ n := by
  intro n
  induction n with
  | zero => exact ⟨Int.le_refl 0, Int.le_refl 0⟩
  | succ n ih =>
    show 0 ≤ (if mk n ≤ m then ((n + 1 : Nat) : Int) else insP mk m n) ∧ (if mk n ≤ m then ((n + 1 : Nat) : Int) else insP mk m n) ≤ _
    by_cases h : mk n ≤ m
    · rw [if_pos h]; omega
    · rw [if_neg h]; omega
/-- the place is found from above -/
theorem insP_down {mk : Int → Int} {m k n : Int} (h0 : 0 ≤ k) (h1 : k ≤ n) (hg : ∀ i, k ≤ i → i < n → m < mk i) (hk : k = 0 ∨ mk (k - 1) ≤ m) : insP mk m n.toNat = k := by
  obtain ⟨j, rfl⟩ : ∃ j : Nat, k = j := ⟨k.toNat, by omega⟩
  obtain ⟨d, rfl⟩ : ∃ d : Nat, n = (j + d : Nat) := ⟨(n - j).toNat, by omega⟩
  rw [Int.toNat_natCast]
  clear h0 h1
  induction d with
  | zero =>
    cases j with
    | zero => rfl
    | succ j =>
      show (if mk j ≤ m then ((j + 1 : Nat) : Int) else insP mk m j) = _
      rcases hk with q | q
      · omega
      · rw [show ((j + 1 : Nat) : Int) - 1 = j by omega] at q
        rw [if_pos q]
  | succ d ih =>
    have := hg ((j + d : Nat) : Int) (by omega) (by omega)
    show (if mk ((j + d : Nat) : Int) ≤ m then (((j + d) + 1 : Nat) : Int) else insP mk m (j + d)) = _
    rw [if_neg (by omega)]
    exact ih (fun i i0 i1 => hg i i0 (by omega))
/-- the nearest of the first n, the first one of several -/
def nrI (d : Int → Int) : Nat → Int
  | 0 => -9
  | n + 1 => if nrI d n = -9 then (n : Int) else if d n < d (nrI d n) then (n : Int) else nrI d n
theorem nrI_rng (d : Int → Int) : ∀ n : Nat, (n = 0 ∧ nrI d n = -9) ∨ (0 ≤ nrI d n ∧ nrI d n < n) := by
  intro n
  induction n with
  | zero => left; exact ⟨rfl, rfl⟩
  | succ n ih =>
    right
    show 0 ≤ (if nrI d n = -9 then (n : Int) else if d n < d (nrI d n) then (n : Int) else nrI d n) ∧ (if nrI d n = -9 then (n : Int) else if d n < d (nrI d n) then (n : Int) else nrI d n) < _
    repeat' split
    all_goals omega
theorem nrI_succ (d : Int → Int) {k : Int} (h : 0 ≤ k) : nrI d (k + 1).toNat = if nrI d k.toNat = -9 then k else if d k < d (nrI d k.toNat) then k else nrI d k.toNat := by
  rw [show (k + 1).toNat = k.toNat + 1 by omega]
  show (if nrI d k.toNat = -9 then ((k.toNat : Nat) : Int) else if d ((k.toNat : Nat) : Int) < d (nrI d k.toNat) then ((k.toNat : Nat) : Int) else nrI d k.toNat) = _
  rw [show ((k.toNat : Nat) : Int) = k by omega]
theorem nrI_scale {d e : Int → Int} {g : Int} (hg : 0 < g) : ∀ n : Nat, (∀ k : Int, 0 ≤ k → k < n → e k = d k * g) → nrI d n = nrI e n := by
  intro n
  induction n with
  | zero => intro _; rfl
  | succ n ih =>
    intro h
    have ih := ih (fun k h0 h1 => h k h0 (by omega))
    show (if nrI d n = -9 then (n : Int) else if d n < d (nrI d n) then (n : Int) else nrI d n) = (if nrI e n = -9 then (n : Int) else if e n < e (nrI e n) then (n : Int) else nrI e n)
    rw [← ih]
    by_cases q : nrI d n = -9
    · rw [if_pos q, if_pos q]
    · rw [if_neg q, if_neg q]
      have r := nrI_rng d n
      rw [h n (by omega) (by omega), h (nrI d n) (by omega) (by omega)]
      by_cases z : d n < d (nrI d n)
      · rw [if_pos z, if_pos (Int.mul_lt_mul_of_pos_right z hg)]
      · rw [if_neg z, if_neg (fun y => z (Int.lt_of_mul_lt_mul_right y (by omega)))]
/-- the first of n for which something is so, or -9 -/
def fi1 (p : Int → Int) : Nat → Int
  | 0 => -9
  | n + 1 => if fi1 p n = -9 then (if p n = 1 then (n : Int) else -9) else fi1 p n
theorem fi1_no {p : Int → Int} : ∀ n : Nat, (∀ k : Int, 0 ≤ k → k < n → ¬ p k = 1) → fi1 p n = -9 := by
  intro n
  induction n with
  | zero => intro _; rfl
  | succ n ih =>
    intro h
    show (if _ then _ else _) = _
    rw [if_pos (ih (fun k h0 h1 => h k h0 (by omega))), if_neg (h n (by omega) (by omega))]
theorem fi1_is {p : Int → Int} {k n : Int} (h0 : 0 ≤ k) (h1 : k < n) (hm : p k = 1) (hb : ∀ j : Int, 0 ≤ j → j < k → ¬ p j = 1) : fi1 p n.toNat = k := by
  have key : ∀ d : Nat, fi1 p (k.toNat + 1 + d) = k := by
    intro d
    induction d with
    | zero =>
      show (if _ then _ else _) = _
      rw [if_pos (fi1_no k.toNat (fun j j0 j1 => hb j j0 (by omega))), show ((k.toNat : Nat) : Int) = k by omega, if_pos hm]
    | succ d ih =>
      rw [show k.toNat + 1 + (d + 1) = (k.toNat + 1 + d) + 1 from rfl]
      show (if _ then _ else _) = _
      rw [if_neg (by rw [ih]; omega)]
      exact ih
  have := key (n.toNat - (k.toNat + 1))
  rw [show k.toNat + 1 + (n.toNat - (k.toNat + 1)) = n.toNat by omega] at this
  exact this
section FS2
variable (nS : Int) (bt pn : Int → Int) (st nT : Int) (a v b w er : Int → Int) (nM : Int) (mk : Int → Int)
/-- by how much a MARK differs, times the lower number -/
def dM (s k : Int) : Int := ((mk k * tL nT a v b w s - tU st nT a v b w s).natAbs : Int)
def fNear (s : Int) : Int := if 0 ≤ s ∧ s < nS then (if jS a v b w nT.toNat 0 s = jS a v b w nT.toNat 0 0 then (if nrI (dM st nT a v b w mk s) nM.toNat = -9 then -9 else mk (nrI (dM st nT a v b w mk s) nM.toNat)) else -9) else -1
def fAway (s which : Int) : Int := if 0 ≤ s ∧ s < nS then (if 0 ≤ which ∧ which ≤ 1 then (if jS a v b w nT.toNat 0 s = jS a v b w nT.toNat 0 0 then (if nrI (dM st nT a v b w mk s) nM.toNat = -9 then -9 else if dM st nT a v b w mk s (nrI (dM st nT a v b w mk s) nM.toNat) = 0 then which else if which = 0 then dM st nT a v b w mk s (nrI (dM st nT a v b w mk s) nM.toNat) / gcdI (dM st nT a v b w mk s (nrI (dM st nT a v b w mk s) nM.toNat)) (tL nT a v b w s) else tL nT a v b w s / gcdI (dM st nT a v b w mk s (nrI (dM st nT a v b w mk s) nM.toNat)) (tL nT a v b w s)) else -9) else -2) else -1
/-- how long a SECTION lasts by a START; nothing, if it is not played -/
def lsF (s : Int) : Int := if jS a v b w nT.toNat 0 s = jS a v b w nT.toNat 0 0 then (bt s * 60000 * tL nT a v b w s) / tU st nT a v b w s else 0
def fClock (s what : Int) : Int := if 0 ≤ s ∧ s < nS then (if 0 ≤ what ∧ what ≤ 1 then (if jS a v b w nT.toNat 0 s = jS a v b w nT.toNat 0 0 then (if what = 0 then smI (lsF bt st nT a v b w) s.toNat else lsF bt st nT a v b w s) else -9) else -2) else -1
def fWhole : Int := smI (lsF bt st nT a v b w) nS.toNat
def fWhere (t what : Int) : Int := if (0 ≤ t ∧ t ≤ 100000000) ∧ (0 ≤ what ∧ what ≤ 1) then (if fi1 (fun s => if t < smI (lsF bt st nT a v b w) (s + 1).toNat then 1 else 0) nS.toNat = -9 then -9 else if what = 0 then fi1 (fun s => if t < smI (lsF bt st nT a v b w) (s + 1).toNat then 1 else 0) nS.toNat else t - smI (lsF bt st nT a v b w) (fi1 (fun s => if t < smI (lsF bt st nT a v b w) (s + 1).toNat then 1 else 0) nS.toNat).toNat) else -2
/-- within: what its answer is -/
def fWithin (t rv : Int) : Prop := ((0 ≤ t ∧ t ≤ 100000000) ∧ (rv = -9 ∧ ∀ x, 20 ≤ x → x ≤ 400 → t < smI (lsF bt x nT a v b w) nS.toNat)) ∨ ((0 ≤ t ∧ t ≤ 100000000) ∧ (20 ≤ rv ∧ rv ≤ 400) ∧ smI (lsF bt rv nT a v b w) nS.toNat ≤ t ∧ ∀ x, 20 ≤ x → x < rv → t < smI (lsF bt x nT a v b w) nS.toNat) ∨ (¬ (0 ≤ t ∧ t ≤ 100000000) ∧ rv = -2)
theorem fWithin_one {t r1 r2 : Int} (h1 : fWithin nS bt nT a v b w t r1) (h2 : fWithin nS bt nT a v b w t r2) : r1 = r2 := by
  rcases h1 with ⟨t1, a1, a2⟩ | ⟨t1, a1, a2, a3⟩ | ⟨t1, a1⟩ <;> rcases h2 with ⟨t2, b1, b2⟩ | ⟨t2, b1, b2, b3⟩ | ⟨t2, b1⟩
  · omega
  · have := a2 r2 (by omega) (by omega); omega
  · omega
  · have := b2 r1 (by omega) (by omega); omega
  · by_cases q : r1 < r2
    · have := b3 r1 (by omega) q; omega
    · by_cases q2 : r2 < r1
      · have := a3 r2 (by omega) q2; omega
      · omega
  · omega
  · omega
  · omega
  · omega
/-- two VALUES, as x = 20 v + w, by which a TIE would give q -/
def pvM (s q x : Int) : Int := if tU st nT a v b w s * tk (x % 20) = q * tL nT a v b w s * tk (x / 20) then 1 else 0
def cM (p : Int → Int) (n : Int) : Int := smI p n.toNat
def fPivot (s q k rv : Int) : Prop := (¬ (0 ≤ s ∧ s < nS) ∧ rv = -1) ∨ ((0 ≤ s ∧ s < nS) ∧ ¬ ((20 ≤ q ∧ q ≤ 400) ∧ (-1 ≤ k ∧ k ≤ 399)) ∧ rv = -2) ∨ ((0 ≤ s ∧ s < nS) ∧ ((20 ≤ q ∧ q ≤ 400) ∧ (-1 ≤ k ∧ k ≤ 399)) ∧ ¬ jS a v b w nT.toNat 0 s = jS a v b w nT.toNat 0 0 ∧ rv = -3) ∨ ((0 ≤ s ∧ s < nS) ∧ ((20 ≤ q ∧ q ≤ 400) ∧ (-1 ≤ k ∧ k ≤ 399)) ∧ jS a v b w nT.toNat 0 s = jS a v b w nT.toNat 0 0 ∧ ((k = -1 ∧ rv = smI (pvM st nT a v b w s q) 400) ∨ (0 ≤ k ∧ ((∃ x, (0 ≤ x ∧ x < 400) ∧ pvM st nT a v b w s q x = 1 ∧ smI (pvM st nT a v b w s q) x.toNat = k ∧ rv = 100 * (x / 20) + x % 20) ∨ (smI (pvM st nT a v b w s q) 400 ≤ k ∧ rv = -9)))))
def fMany (what : Int) : Int := if what = 0 then nS else if what = 1 then nT else if 2 ≤ what ∧ what ≤ 4 then smI (fun k => if jK a v b w k.toNat = what - 2 then 1 else 0) nT.toNat else if what = 5 then nS - smI (fun k => if jK a v b w k.toNat = 0 then 1 else 0) nT.toNat else if what = 6 then nM else if what = 7 then smI (fun s => pnH nM mk (pn s)) nS.toNat else if what = 8 then st else -2
end FS2
theorem smI_mono {p : Int → Int} (hp : ∀ x, 0 ≤ p x) {m n : Nat} (h : m ≤ n) : smI p m ≤ smI p n := by
  obtain ⟨d, rfl⟩ : ∃ d, n = m + d := ⟨n - m, by omega⟩
  induction d with
  | zero => exact Int.le_refl _
  | succ d ih =>
    have := ih (by omega)
    have := hp ((m + d : Nat) : Int)
    show smI p m ≤ smI p (m + d) + p ((m + d : Nat) : Int)
    omega
theorem kth_one {p : Int → Int} (hp : ∀ x, 0 ≤ p x) {x y : Int} (hx : 0 ≤ x) (hy : 0 ≤ y) (px : p x = 1) (py : p y = 1) (e : smI p x.toNat = smI p y.toNat) : x = y := by
  have key : ∀ {x y : Int}, 0 ≤ x → 0 ≤ y → p x = 1 → smI p x.toNat = smI p y.toNat → ¬ x < y := by
    intro x y hx hy px e hlt
    have h1 := smI_mono hp (show (x + 1).toNat ≤ y.toNat by omega)
    rw [smI_succ p hx] at h1
    omega
  have := key hx hy px e
  have := key hy hx py e.symm
  omega
