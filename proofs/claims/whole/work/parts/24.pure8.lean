/-! ===== pure: plays: a table over a tree of TIES ===== -/
theorem smI_one {f g : Int → Int} {p : Nat} {x : Int} : ∀ n : Nat, p < n → (∀ k : Int, 0 ≤ k → k < n → k ≠ p → f k = g k) → f p = g p + x → smI f n = smI g n + x := by
  intro n
  induction n with
  | zero => intro h; omega
  | succ n ih =>
    intro hp h e
    show smI f n + f n = smI g n + g n + x
    by_cases q : p = n
    · subst q
      rw [e, smI_congr p (fun k h0 h1 => h k h0 (by omega) (by omega))]
      omega
    · rw [ih (by omega) (fun k h0 h1 h2 => h k h0 (by omega) h2) e, h n (by omega) (by omega) (by omega)]
      omega
section DP
variable (nS : Int) (AL : Int → Int → Prop) (a b : Int → Int) (hm : Int → Int → Int → Int) (at_ by_ : Int → Int)
/-- a mark for each SECTION, of those that are allowed -/
def aOk (g : Int → Int) : Prop := ∀ s, 0 ≤ s → s < nS → AL s (g s)
/-- harm of the TIE by which the i-th is tied -/
def hT (g : Int → Int) (i : Int) : Int := hm (by_ (i + 1)) (g (a (by_ (i + 1)))) (g (b (by_ (i + 1))))
/-- harm of the first i - 1 of these TIES, and what the table has of the first i SECTIONS -/
def vT (C : Int → Int → Int) (i : Nat) (g : Int → Int) : Int := smI (hT a b hm by_ g) (i - 1) + smI (fun t => C (at_ t) (g (at_ t))) i
def DPI (c : Nat) (C : Int → Int → Int) (i : Nat) : Prop := (∀ g, aOk nS AL g → vT a b hm at_ by_ C i g ≤ smI (hT a b hm by_ g) (c - 1)) ∧ (∀ g, aOk nS AL g → ∃ g', aOk nS AL g' ∧ (∀ t : Int, 0 ≤ t → t < i → g' (at_ t) = g (at_ t)) ∧ smI (hT a b hm by_ g') (c - 1) = vT a b hm at_ by_ C i g)
variable {nS AL a b hm at_ by_}
theorem smI_zero {f : Int → Int} : ∀ n : Nat, (∀ k : Int, 0 ≤ k → k < n → f k = 0) → smI f n = 0 := by
  intro n
  induction n with
  | zero => intro _; rfl
  | succ n ih =>
    intro h
    show smI f n + f n = 0
    rw [ih (fun k h0 h1 => h k h0 (by omega)), h n (by omega) (by omega)]
    rfl
theorem DP_init {c : Nat} {C : Int → Int → Int} (hat : ∀ t : Int, 0 ≤ t → t < c → 0 ≤ at_ t ∧ at_ t < nS) (hC : ∀ s m, 0 ≤ s → s < nS → AL s m → C s m = 0) : DPI nS AL a b hm at_ by_ c C c := by
  have key : ∀ g, aOk nS AL g → vT a b hm at_ by_ C c g = smI (hT a b hm by_ g) (c - 1) := by
    intro g hg
    unfold vT
    rw [smI_zero c (fun t t0 t1 => hC _ _ (hat t t0 t1).1 (hat t t0 t1).2 (hg _ (hat t t0 t1).1 (hat t t0 t1).2))]
    omega
  exact ⟨fun g hg => by rw [key g hg]; exact Int.le_refl _, fun g hg => ⟨g, hg, fun _ _ _ => rfl, (key g hg).symm⟩⟩
/-- one SECTION more has told its parent -/
theorem DP_step {c i : Nat} {C C' : Int → Int → Int} (hi : 1 ≤ i) (hic : i + 1 ≤ c) (hat : ∀ t : Int, 0 ≤ t → t < c → 0 ≤ at_ t ∧ at_ t < nS) (hinj : ∀ t r : Int, 0 ≤ t → t < r → r < c → at_ t ≠ at_ r)
    (hlow : ∀ t : Int, 1 ≤ t → t < i → (∃ r, (0 ≤ r ∧ r < t + 1) ∧ a (by_ t) = at_ r) ∧ (∃ r, (0 ≤ r ∧ r < t + 1) ∧ b (by_ t) = at_ r))
    {j : Int} (hj : 0 ≤ j ∧ j < i) (hend : (at_ j = a (by_ i) ∧ at_ i = b (by_ i)) ∨ (at_ j = b (by_ i) ∧ at_ i = a (by_ i)))
    (h : DPI nS AL a b hm at_ by_ c C (i + 1)) (μ : Int → Int)
    (hC : ∀ t : Int, 0 ≤ t → t < i → t ≠ j → ∀ m, AL (at_ t) m → C' (at_ t) m = C (at_ t) m) (hP : ∀ m, AL (at_ j) m → C' (at_ j) m = C (at_ j) m + μ m)
    (hμ : ∀ m, AL (at_ j) m → (∀ x, AL (at_ i) x → μ m ≤ C (at_ i) x + (if at_ i = b (by_ i) then hm (by_ i) m x else hm (by_ i) x m)) ∧ ∃ x, AL (at_ i) x ∧ μ m = C (at_ i) x + (if at_ i = b (by_ i) then hm (by_ i) m x else hm (by_ i) x m)) : DPI nS AL a b hm at_ by_ c C' i := by
  obtain ⟨h1, h2⟩ := h
  have hne : at_ j ≠ at_ i := hinj j i hj.1 hj.2 (by omega)
  have hai := hat i (by omega) (by omega)
  have haj := hat j (by omega) (by omega)
  have eT : ∀ g : Int → Int, hm (by_ i) (g (a (by_ i))) (g (b (by_ i))) = if at_ i = b (by_ i) then hm (by_ i) (g (at_ j)) (g (at_ i)) else hm (by_ i) (g (at_ i)) (g (at_ j)) := by
    intro g
    rcases hend with ⟨q, r⟩ | ⟨q, r⟩
    · rw [if_pos r, q, r]
    · rw [if_neg (fun z => hne (q.trans z.symm)), q, r]
  have vS : ∀ g, vT a b hm at_ by_ C (i + 1) g = smI (hT a b hm by_ g) (i - 1) + smI (fun t => C (at_ t) (g (at_ t))) i + ((if at_ i = b (by_ i) then hm (by_ i) (g (at_ j)) (g (at_ i)) else hm (by_ i) (g (at_ i)) (g (at_ j))) + C (at_ i) (g (at_ i))) := by
    intro g
    unfold vT
    have e1 : smI (hT a b hm by_ g) (i + 1 - 1) = smI (hT a b hm by_ g) (i - 1) + hm (by_ i) (g (a (by_ i))) (g (b (by_ i))) := by
      obtain ⟨i', rfl⟩ : ∃ i', i = i' + 1 := ⟨i - 1, by omega⟩
      show smI (hT a b hm by_ g) i' + hT a b hm by_ g i' = _
      unfold hT
      rfl
    have e2 : smI (fun t => C (at_ t) (g (at_ t))) (i + 1) = smI (fun t => C (at_ t) (g (at_ t))) i + C (at_ i) (g (at_ i)) := rfl
    rw [e1, e2, eT g]
    omega
  have vD : ∀ g, aOk nS AL g → vT a b hm at_ by_ C' i g = smI (hT a b hm by_ g) (i - 1) + smI (fun t => C (at_ t) (g (at_ t))) i + μ (g (at_ j)) := by
    intro g hg
    unfold vT
    have e2 : smI (fun t => C' (at_ t) (g (at_ t))) i = smI (fun t => C (at_ t) (g (at_ t))) i + μ (g (at_ j)) := by
      refine smI_one (p := j.toNat) i (by omega) (fun t t0 t1 t2 => ?_) ?_
      · exact hC t t0 t1 (by omega) _ (hg _ (hat t t0 (by omega)).1 (hat t t0 (by omega)).2)
      · show C' (at_ ((j.toNat : Nat) : Int)) (g (at_ ((j.toNat : Nat) : Int))) = C (at_ ((j.toNat : Nat) : Int)) (g (at_ ((j.toNat : Nat) : Int))) + _
        rw [show ((j.toNat : Nat) : Int) = j by omega]
        exact hP _ (hg _ haj.1 haj.2)
    rw [e2]
    omega
  refine ⟨fun g hg => ?_, fun g hg => ?_⟩
  · have := (hμ (g (at_ j)) (hg _ haj.1 haj.2)).1 (g (at_ i)) (hg _ hai.1 hai.2)
    have l1 := h1 g hg
    rw [vS g] at l1
    rw [vD g hg]
    omega
  · obtain ⟨-, x, hx, ex⟩ := hμ (g (at_ j)) (hg _ haj.1 haj.2)
    have g2 : ∃ g2 : Int → Int, g2 = fun s => if s = at_ i then x else g s := ⟨_, rfl⟩
    obtain ⟨g2, hg2⟩ := g2
    have k1 : ∀ s, s ≠ at_ i → g2 s = g s := fun s hs => by rw [hg2]; exact if_neg hs
    have k2 : g2 (at_ i) = x := by rw [hg2]; exact if_pos rfl
    have ok2 : aOk nS AL g2 := by
      intro s s0 s1
      by_cases q : s = at_ i
      · rw [q, k2]; exact hx
      · rw [k1 s q]; exact hg s s0 s1
    obtain ⟨g', o1, o2, o3⟩ := h2 g2 ok2
    have lowne : ∀ t : Int, 0 ≤ t → t < i → at_ t ≠ at_ i := fun t t0 t1 => hinj t i t0 t1 (by omega)
    refine ⟨g', o1, fun t t0 t1 => ?_, ?_⟩
    · rw [o2 t t0 (by omega), k1 _ (lowne t t0 t1)]
    · rw [o3, vS g2, vD g hg, k2, k1 _ hne, ex]
      have e1 : smI (hT a b hm by_ g2) (i - 1) = smI (hT a b hm by_ g) (i - 1) := by
        refine smI_congr _ (fun t t0 t1 => ?_)
        unfold hT
        obtain ⟨⟨r1, q1, e1⟩, r2, q2, e2⟩ := hlow (t + 1) (by omega) (by omega)
        rw [e1, e2, k1 _ (lowne r1 q1.1 (by omega)), k1 _ (lowne r2 q2.1 (by omega))]
      have e2 : smI (fun t => C (at_ t) (g2 (at_ t))) i = smI (fun t => C (at_ t) (g (at_ t))) i := by
        refine smI_congr _ (fun t t0 t1 => ?_)
        show C (at_ t) (g2 (at_ t)) = C (at_ t) (g (at_ t))
        rw [k1 _ (lowne t t0 t1)]
      rw [e1, e2]
      omega
/-- at the root: the least harm by the root's mark -/
theorem DP_end {c : Nat} {C : Int → Int → Int} (h : DPI nS AL a b hm at_ by_ c C 1) : (∀ g, aOk nS AL g → C (at_ 0) (g (at_ 0)) ≤ smI (hT a b hm by_ g) (c - 1)) ∧ (∀ g, aOk nS AL g → ∃ g', aOk nS AL g' ∧ g' (at_ 0) = g (at_ 0) ∧ smI (hT a b hm by_ g') (c - 1) = C (at_ 0) (g (at_ 0))) := by
  have key : ∀ g, vT a b hm at_ by_ C 1 g = C (at_ 0) (g (at_ 0)) := by
    intro g
    show 0 + (0 + C (at_ ((0 : Nat) : Int)) (g (at_ ((0 : Nat) : Int)))) = _
    rw [Int.zero_add, Int.zero_add]
    rfl
  refine ⟨fun g hg => by rw [← key g]; exact h.1 g hg, fun g hg => ?_⟩
  obtain ⟨g', o1, o2, o3⟩ := h.2 g hg
  exact ⟨g', o1, o2 0 (by omega) (by omega), by rw [o3, key g]⟩
end DP
/-! the TIES of a tree are just the kept ones among its SECTIONS -/
section TS
variable {a v b w : Int → Int} {n : Nat} {f c : Int} {at_ by_ : Int → Int}
/-- a tree over all that is joined to f -/
def TF (a v b w : Int → Int) (n : Nat) (f c : Int) (at_ by_ : Int → Int) : Prop := (1 ≤ c ∧ c ≤ 7) ∧ at_ 0 = f ∧ (∀ i, 0 ≤ i → i < c → 0 ≤ at_ i ∧ at_ i < 7) ∧ (∀ i j, 0 ≤ i → i < j → j < c → at_ i ≠ at_ j) ∧ TR a v b w n c at_ by_ ∧ (∀ x, 0 ≤ x ∧ x < 7 → (jS a v b w n 0 x = jS a v b w n 0 f ↔ ∃ i, (0 ≤ i ∧ i < c) ∧ at_ i = x))
theorem TF_inj (h : TF a v b w n f c at_ by_) {i j : Int} (hi : 1 ≤ i) (hij : i < j) (hj : j < c) : by_ i ≠ by_ j := by
  obtain ⟨h1, h2, h3, h4, h5, h6⟩ := h
  intro e
  obtain ⟨-, -, p, hp, hpe⟩ := h5 i hi (by omega)
  obtain ⟨-, -, r, hr, hre⟩ := h5 j (by omega) hj
  rw [← e] at hre
  have n1 := h4 i j (by omega) hij hj
  have n2 := h4 p j (by omega) (by omega) hj
  rcases hpe with ⟨q1, q2⟩ | ⟨q1, q2⟩ <;> rcases hre with ⟨r1, r2⟩ | ⟨r1, r2⟩
  · exact n1 (q2.trans r2.symm)
  · exact n2 (q1.trans r2.symm)
  · exact n2 (q1.trans r2.symm)
  · exact n1 (q2.trans r2.symm)
/-- routes run along the tree's own TIES -/
theorem TF_route (h : TF a v b w n f c at_ by_) : ∀ (i : Nat), (i : Int) < c → ∀ k : Nat, (iXor (jS a v b w n 3 f) (jS a v b w n 3 (at_ i))).toNat.testBit k = true → ∃ j, (1 ≤ j ∧ j < c) ∧ by_ j = k := by
  obtain ⟨h1, h2, h3, h4, h5, h6⟩ := h
  intro i
  induction i using Nat.strongRecOn with
  | _ i ih =>
    intro hi k hk
    by_cases q : i = 0
    · subst q
      rw [show ((0 : Nat) : Int) = 0 from rfl, h2, iXor_self] at hk
      simp at hk
    · obtain ⟨g1, g2, j, g3, g4⟩ := h5 i (by omega) hi
      have kp := jS_kept (a := a) (v := v) (b := b) (w := w) (n := n) (k := (by_ i).toNat) (by omega) g2
      rw [show (((by_ i).toNat : Nat) : Int) = by_ i by omega] at kp
      have e3 : iXor (jS a v b w n 3 (at_ j)) (jS a v b w n 3 (at_ i)) = 2 ^ (by_ i).toNat := by
        rcases g4 with ⟨r1, r2⟩ | ⟨r1, r2⟩
        · rw [r1, r2]; exact kp.2.2.2
        · rw [r1, r2, iXor_comm]; exact kp.2.2.2
      have e4 : iXor (jS a v b w n 3 f) (jS a v b w n 3 (at_ i)) = iXor (iXor (jS a v b w n 3 f) (jS a v b w n 3 (at_ j))) (iXor (jS a v b w n 3 (at_ j)) (jS a v b w n 3 (at_ i))) := (iXor_mid _ _ _).symm
      rw [e4, e3, iXor_toNat, Nat.testBit_xor, two_pow_toNat, Nat.testBit_two_pow] at hk
      by_cases r : (by_ i).toNat = k
      · exact ⟨i, by omega, by omega⟩
      · simp [r] at hk
        have := ih j.toNat (by omega) (by omega) k (by rw [show ((j.toNat : Nat) : Int) = j by omega]; exact hk)
        exact this
theorem TF_all (h : TF a v b w n f c at_ by_) (hN : tOk a v b w n) {k : Nat} (hk : k < n) (hk0 : jK a v b w k = 0) (hj : jS a v b w n 0 (a k) = jS a v b w n 0 f) : ∃ j, (1 ≤ j ∧ j < c) ∧ by_ j = k := by
  have hr := TF_route h
  obtain ⟨h1, h2, h3, h4, h5, h6⟩ := h
  have kp := jS_kept (n := n) hk hk0
  obtain ⟨i1, q1, e1⟩ := (h6 (a k) (hN k hk).1).mp hj
  obtain ⟨i2, q2, e2⟩ := (h6 (b k) (hN k hk).2.1).mp (by rw [← kp.1]; exact hj)
  have e3 : iXor (iXor (jS a v b w n 3 f) (jS a v b w n 3 (a k))) (iXor (jS a v b w n 3 f) (jS a v b w n 3 (b k))) = 2 ^ k := by
    rw [iXor_comm (jS a v b w n 3 f) (jS a v b w n 3 (a k)), iXor_mid]
    exact kp.2.2.2
  have hb : (iXor (iXor (jS a v b w n 3 f) (jS a v b w n 3 (a k))) (iXor (jS a v b w n 3 f) (jS a v b w n 3 (b k)))).toNat.testBit k = true := by
    rw [e3, two_pow_toNat, Nat.testBit_two_pow]; simp
  rw [iXor_toNat, Nat.testBit_xor] at hb
  cases hq : (iXor (jS a v b w n 3 f) (jS a v b w n 3 (a k))).toNat.testBit k with
  | true => exact hr i1.toNat (by omega) k (by rw [show ((i1.toNat : Nat) : Int) = i1 by omega, e1]; exact hq)
  | false =>
    rw [hq] at hb
    simp at hb
    exact hr i2.toNat (by omega) k (by rw [show ((i2.toNat : Nat) : Int) = i2 by omega, e2]; exact hb)
/-- a sum over the tree's TIES, as one over all -/
theorem TF_sum (h : TF a v b w n f c at_ by_) (hN : tOk a v b w n) (F : Int → Int) : smI (fun i => F (by_ (i + 1))) (c.toNat - 1) = smI (fun k => if jK a v b w k.toNat = 0 then (if jS a v b w n 0 (a k) = jS a v b w n 0 f then F k else 0) else 0) n := by
  have hinj := fun i j => TF_inj h (i := i) (j := j)
  have hall := fun k => TF_all h hN (k := k)
  obtain ⟨h1, h2, h3, h4, h5, h6⟩ := h
  -- by the first m TIES of the tree
  have key : ∀ (m : Nat), (m : Int) < c → ∀ ind : Int → Int, (∀ k : Int, 0 ≤ k → k < n → (ind k = 1 ∧ ∃ j, (1 ≤ j ∧ j < (m : Int) + 1) ∧ by_ j = k) ∨ (ind k = 0 ∧ ¬ ∃ j, (1 ≤ j ∧ j < (m : Int) + 1) ∧ by_ j = k)) → smI (fun i => F (by_ (i + 1))) m = smI (fun k => ind k * F k) n := by
    intro m
    induction m with
    | zero =>
      intro _ ind hind
      rw [smI_zero n (fun k k0 k1 => ?_)]
      · rfl
      · rcases hind k k0 k1 with ⟨q, j, hj, -⟩ | ⟨q, -⟩
        · omega
        · rw [q, Int.zero_mul]
    | succ m ih =>
      intro hm ind hind
      have g := h5 ((m + 1 : Nat) : Int) (by omega) (by omega)
      have nw : ¬ ∃ j, (1 ≤ j ∧ j < (m : Int) + 1) ∧ by_ j = by_ ((m + 1 : Nat) : Int) := by
        rintro ⟨j, hj, e⟩
        exact hinj j ((m + 1 : Nat) : Int) hj.1 (by omega) (by omega) e
      have h0 := ih (by omega) (fun k => if k = by_ ((m + 1 : Nat) : Int) then 0 else ind k) (by
        intro k k0 k1
        by_cases q : k = by_ ((m + 1 : Nat) : Int)
        · right
          refine ⟨if_pos q, ?_⟩
          rw [q]; exact nw
        · show ((if k = by_ ((m + 1 : Nat) : Int) then 0 else ind k) = 1 ∧ _) ∨ ((if k = by_ ((m + 1 : Nat) : Int) then 0 else ind k) = 0 ∧ _)
          rw [if_neg q]
          rcases hind k k0 k1 with ⟨r, j, hj, e⟩ | ⟨r, e⟩
          · left
            refine ⟨r, j, ?_, e⟩
            have : j ≠ ((m + 1 : Nat) : Int) := fun z => q (by rw [← e, z])
            omega
          · right
            refine ⟨r, fun ⟨j, hj, e2⟩ => e ⟨j, by omega, e2⟩⟩)
      show smI (fun i => F (by_ (i + 1))) m + F (by_ ((m : Int) + 1)) = _
      rw [h0]
      have hi1 : ind (by_ ((m + 1 : Nat) : Int)) = 1 := by
        rcases hind (by_ ((m + 1 : Nat) : Int)) (by omega) (by omega) with ⟨r, -⟩ | ⟨-, e⟩
        · exact r
        · exact absurd ⟨((m + 1 : Nat) : Int), by omega, rfl⟩ e
      refine (smI_one (p := (by_ ((m + 1 : Nat) : Int)).toNat) n (by omega) (fun k k0 k1 k2 => ?_) ?_).symm
      · show ind k * F k = (if k = by_ ((m + 1 : Nat) : Int) then 0 else ind k) * F k
        rw [if_neg (by omega)]
      · show ind _ * F _ = (if _ then 0 else ind _) * F _ + _
        rw [show (((by_ ((m + 1 : Nat) : Int)).toNat : Nat) : Int) = by_ ((m + 1 : Nat) : Int) by omega, hi1, if_pos rfl, Int.zero_mul, Int.zero_add, Int.one_mul]
        rfl
  have := key (c.toNat - 1) (by omega) (fun k => if jK a v b w k.toNat = 0 then (if jS a v b w n 0 (a k) = jS a v b w n 0 f then 1 else 0) else 0) (by
    intro k k0 k1
    show ((if jK a v b w k.toNat = 0 then (if jS a v b w n 0 (a k) = jS a v b w n 0 f then (1 : Int) else 0) else 0) = 1 ∧ _) ∨ ((if jK a v b w k.toNat = 0 then (if jS a v b w n 0 (a k) = jS a v b w n 0 f then (1 : Int) else 0) else 0) = 0 ∧ _)
    have hkN : ((k.toNat : Nat) : Int) = k := by omega
    have hno : (∃ j, (1 ≤ j ∧ j < ((c.toNat - 1 : Nat) : Int) + 1) ∧ by_ j = k) → jK a v b w k.toNat = 0 ∧ jS a v b w n 0 (a k) = jS a v b w n 0 f := by
      rintro ⟨j, hj, e⟩
      obtain ⟨g1, g2, r, g3, g4⟩ := h5 j (by omega) (by omega)
      rw [e] at g2 g4
      refine ⟨g2, ?_⟩
      rcases g4 with ⟨r1, r2⟩ | ⟨r1, r2⟩
      · exact (h6 (a k) (by rw [← r1]; exact h3 r (by omega) (by omega))).mpr ⟨r, by omega, r1⟩
      · exact (h6 (a k) (by rw [← r2]; exact h3 j (by omega) (by omega))).mpr ⟨j, by omega, r2⟩
    by_cases q1 : jK a v b w k.toNat = 0
    · rw [if_pos q1]
      by_cases q2 : jS a v b w n 0 (a k) = jS a v b w n 0 f
      · rw [if_pos q2]
        left
        refine ⟨rfl, ?_⟩
        obtain ⟨j, hj, e⟩ := hall k.toNat (by omega) q1 (by rw [hkN]; exact q2)
        exact ⟨j, by omega, by rw [e, hkN]⟩
      · rw [if_neg q2]
        right
        exact ⟨rfl, fun z => q2 (hno z).2⟩
    · rw [if_neg q1]
      right
      exact ⟨rfl, fun z => q1 (hno z).1⟩)
  rw [this]
  refine smI_congr n (fun k k0 k1 => ?_)
  show (if jK a v b w k.toNat = 0 then (if jS a v b w n 0 (a k) = jS a v b w n 0 f then (1 : Int) else 0) else 0) * F k = _
  repeat' split
  · exact Int.one_mul _
  · exact Int.zero_mul _
  · exact Int.zero_mul _
end TS
