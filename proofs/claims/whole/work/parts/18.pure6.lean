/-! ===== pure: what the calls answer, as the numbers have it ===== -/
theorem pw23 {a b c d : Nat} (h : 2 ^ a * 3 ^ b = 2 ^ c * 3 ^ d) : a = c ∧ b = d := by
  have key : ∀ {a b c d : Nat}, 2 ^ a * 3 ^ b = 2 ^ c * 3 ^ d → ¬ a < c := by
    intro a b c d h hac
    obtain ⟨e, rfl⟩ : ∃ e, c = a + (e + 1) := ⟨c - a - 1, by omega⟩
    rw [Nat.pow_add, Nat.mul_assoc] at h
    have h1 : 3 ^ b = 2 ^ (e + 1) * 3 ^ d := Nat.eq_of_mul_eq_mul_left (Nat.pow_pos (by omega)) h
    have h2 : (2 : Nat) ∣ 3 ^ b := by rw [h1, Nat.pow_succ, Nat.mul_comm (2 ^ e), Nat.mul_assoc]; exact Nat.dvd_mul_right _ _
    have h3 : Nat.Coprime 2 (3 ^ b) := Nat.Coprime.pow_right b (by decide)
    have := h3.eq_one_of_dvd h2
    omega
  have e1 : a = c := by
    have := key h
    have := key h.symm
    omega
  subst e1
  have h1 : 3 ^ b = 3 ^ d := Nat.eq_of_mul_eq_mul_left (Nat.pow_pos (by omega)) h
  exact ⟨rfl, (Nat.pow_right_inj (by omega)).mp h1⟩
/-- a share against a TIE: it agrees just if the exponents do -/
theorem pU_agree {X Y v w : Int} (hv : 0 ≤ v ∧ v < 20) (hw : 0 ≤ w ∧ w < 20) : pU X Y * tk v = pU (-X) (-Y) * tk w ↔ X = tw w - tw v ∧ Y = th w - th v := by
  obtain ⟨a1, a2, -, a4⟩ := tw_rng hv
  obtain ⟨b1, b2, -, b4⟩ := tw_rng hw
  have l : ∀ p q r s : Nat, ((2 : Int) ^ p * 3 ^ q) * (2 ^ r * 3 ^ s) = ((2 ^ (p + r) * 3 ^ (q + s) : Nat) : Int) := by
    intro p q r s
    push_cast
    rw [Int.pow_add, Int.pow_add]
    simp only [Int.mul_assoc, Int.mul_left_comm, Int.mul_comm]
  rw [a4, b4]
  unfold pU
  rw [l, l]
  constructor
  · intro h
    have h2 := pw23 (Int.ofNat.inj h)
    omega
  · rintro ⟨rfl, rfl⟩
    congr 3 <;> omega
def smI (f : Int → Int) : Nat → Int
  | 0 => 0
  | n + 1 => smI f n + f n
theorem smI_succ (f : Int → Int) {k : Int} (h : 0 ≤ k) : smI f (k + 1).toNat = smI f k.toNat + f k := by
  rw [show (k + 1).toNat = k.toNat + 1 by omega]
  show smI f k.toNat + f (k.toNat : Int) = _
  rw [show ((k.toNat : Nat) : Int) = k by omega]
theorem smI_congr {f g : Int → Int} : ∀ n : Nat, (∀ k : Int, 0 ≤ k → k < n → f k = g k) → smI f n = smI g n := by
  intro n
  induction n with
  | zero => intro _; rfl
  | succ n ih =>
    intro h
    show smI f n + f n = smI g n + g n
    rw [ih (fun k h0 h1 => h k h0 (by omega)), h n (by omega) (by omega)]
theorem smI_bd {f : Int → Int} {c : Int} (hc : 0 ≤ c) : ∀ n : Nat, (∀ k : Int, 0 ≤ k → k < n → 0 ≤ f k ∧ f k ≤ c) → 0 ≤ smI f n ∧ smI f n ≤ c * n := by
  intro n
  induction n with
  | zero => intro _; exact ⟨Int.le_refl 0, by show (0 : Int) ≤ c * ((0 : Nat) : Int); simp⟩
  | succ n ih =>
    intro h
    have h1 := ih (fun k h0 h1 => h k h0 (by omega))
    have h2 := h n (by omega) (by omega)
    show 0 ≤ smI f n + f n ∧ smI f n + f n ≤ c * ((n + 1 : Nat) : Int)
    have : c * ((n + 1 : Nat) : Int) = c * n + c := by push_cast; rw [Int.mul_add, Int.mul_one]
    omega
/-- where a number is among the first n, or -9 -/
def ixF (mk : Int → Int) (m : Int) : Nat → Int
  | 0 => -9
  | n + 1 => if ixF mk m n = -9 then (if mk n = m then (n : Int) else -9) else ixF mk m n
theorem ixF_no {mk : Int → Int} {m : Int} : ∀ n : Nat, (∀ k : Int, 0 ≤ k → k < n → ¬ mk k = m) → ixF mk m n = -9 := by
  intro n
  induction n with
  | zero => intro _; rfl
  | succ n ih =>
    intro h
    show (if _ then _ else _) = _
    rw [if_pos (ih (fun k h0 h1 => h k h0 (by omega))), if_neg (h n (by omega) (by omega))]
theorem ixF_at {mk : Int → Int} {m k : Int} (h0 : 0 ≤ k) (hm : mk k = m) (hb : ∀ j : Int, 0 ≤ j → j < k → ¬ mk j = m) : ∀ d : Nat, ixF mk m (k.toNat + 1 + d) = k := by
  intro d
  induction d with
  | zero =>
    show (if _ then _ else _) = _
    rw [if_pos (ixF_no k.toNat (fun j j0 j1 => hb j j0 (by omega))), show ((k.toNat : Nat) : Int) = k by omega, if_pos hm]
  | succ d ih =>
    rw [show k.toNat + 1 + (d + 1) = (k.toNat + 1 + d) + 1 from rfl]
    show (if _ then _ else _) = _
    rw [if_neg (by rw [ih]; omega)]
    exact ih
theorem ixF_is {mk : Int → Int} {m k n : Int} (h0 : 0 ≤ k) (h1 : k < n) (hm : mk k = m) (hb : ∀ j : Int, 0 ≤ j → j < k → ¬ mk j = m) : ixF mk m n.toNat = k := by
  have := ixF_at h0 hm hb (n.toNat - (k.toNat + 1))
  rw [show k.toNat + 1 + (n.toNat - (k.toNat + 1)) = n.toNat by omega] at this
  exact this
theorem ixF_cases (mk : Int → Int) (m : Int) : ∀ n : Nat, (ixF mk m n = -9 ∧ ∀ k : Int, 0 ≤ k → k < n → ¬ mk k = m) ∨ ((0 ≤ ixF mk m n ∧ ixF mk m n < n) ∧ mk (ixF mk m n) = m ∧ ∀ j : Int, 0 ≤ j → j < ixF mk m n → ¬ mk j = m) := by
  intro n
  induction n with
  | zero => left; exact ⟨rfl, fun k h0 h1 => by omega⟩
  | succ n ih =>
    rcases ih with ⟨h, hn⟩ | ⟨h1, h2, h3⟩
    · by_cases q : mk n = m
      · right
        have e : ixF mk m (n + 1) = n := by
          show (if _ then _ else _) = _
          rw [if_pos h, if_pos q]
        rw [e]
        exact ⟨by omega, q, hn⟩
      · left
        refine ⟨?_, fun k h0 h1 => ?_⟩
        · show (if _ then _ else _) = _
          rw [if_pos h, if_neg q]
        · by_cases e : k = n
          · rw [e]; exact q
          · exact hn k h0 (by omega)
    · right
      have e : ixF mk m (n + 1) = ixF mk m n := by
        show (if _ then _ else _) = _
        rw [if_neg (by omega)]
      rw [e]
      exact ⟨by omega, h2, h3⟩
/-- 1, if a PIN holds -/
def pnH (nM : Int) (mk : Int → Int) (p : Int) : Int := if p = -9 then 0 else if ixF mk p nM.toNat = -9 then 0 else 1
def tAt (a b : Int → Int) (nT s : Int) : Int := smI (fun k => if a k = s then 1 else if b k = s then 1 else 0) nT.toNat
section FS
variable (nS : Int) (bt pn : Int → Int) (st nT : Int) (a v b w er : Int → Int) (nM : Int) (mk : Int → Int)
/-- ofSection -/
def fSec (s what : Int) : Int := if 0 ≤ s ∧ s < nS then (if what = 0 then bt s else if what = 1 then tAt a b nT s else if what = 2 then sz7 (jS a v b w nT.toNat 0) (jS a v b w nT.toNat 0 s) else if what = 3 then jS a v b w nT.toNat 0 s else if what = 4 then pn s else if what = 5 then pnH nM mk (pn s) else -2) else -1
/-- ofTie -/
def fTie (k what : Int) : Int := if 0 ≤ k ∧ k < nT then (if what = 0 then a k else if what = 1 then v k else if what = 2 then b k else if what = 3 then w k else if what = 4 then er k else if what = 5 then jK a v b w k.toNat else -2) else -1
/-- exponents from a SECTION to another -/
def eX (x y : Int) : Int := jS a v b w nT.toNat 1 y - jS a v b w nT.toNat 1 x
def eY (x y : Int) : Int := jS a v b w nT.toNat 2 y - jS a v b w nT.toNat 2 x
/-- START times RATIO: upper, lower, not reduced -/
def tU (s : Int) : Int := st * pU (eX nT a v b w 0 s) (eY nT a v b w 0 s)
def tL (s : Int) : Int := pU (-(eX nT a v b w 0 s)) (-(eY nT a v b w 0 s))
def jnd (x y : Int) : Prop := jS a v b w nT.toNat 0 x = jS a v b w nT.toNat 0 y
def fTempo (s which : Int) : Int := if 0 ≤ s ∧ s < nS then (if 0 ≤ which ∧ which ≤ 1 then (if jS a v b w nT.toNat 0 s = jS a v b w nT.toNat 0 0 then (if which = 0 then tU st nT a v b w s / gcdI (tU st nT a v b w s) (tL nT a v b w s) else tL nT a v b w s / gcdI (tU st nT a v b w s) (tL nT a v b w s)) else -9) else -2) else -1
def fRatio (x y which : Int) : Int := if (0 ≤ x ∧ x < nS) ∧ (0 ≤ y ∧ y < nS) then (if 0 ≤ which ∧ which ≤ 1 then (if jS a v b w nT.toNat 0 y = jS a v b w nT.toNat 0 x then (if which = 0 then pU (eX nT a v b w x y) (eY nT a v b w x y) else pU (-(eX nT a v b w x y)) (-(eY nT a v b w x y))) else -9) else -2) else -1
def fOff (k which : Int) : Int := if 0 ≤ k ∧ k < nT then (if 0 ≤ which ∧ which ≤ 1 then (if jK a v b w k.toNat = 0 then -9 else (if which = 0 then pU (eX nT a v b w (a k) (b k) - (tw (w k) - tw (v k))) (eY nT a v b w (a k) (b k) - (th (w k) - th (v k))) else pU (-(eX nT a v b w (a k) (b k) - (tw (w k) - tw (v k)))) (-(eY nT a v b w (a k) (b k) - (th (w k) - th (v k)))))) else -2) else -1
def fRing (k : Int) : Int := if 0 ≤ k ∧ k < nT then (if jK a v b w k.toNat = 0 then -9 else iOr (iXor (jS a v b w nT.toNat 3 (a k)) (jS a v b w nT.toNat 3 (b k))) (iShl 1 k)) else -1
end FS
