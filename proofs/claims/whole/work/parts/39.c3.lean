theorem am_step {u1 : St} {s nM z1 z2 : Int} {fo : Int → Int} (h : FLr s nM fo (u1 20) (u1 21)) (hz : (fo s = -9 ∧ z1 = 0 ∧ z2 = nM - 1) ∨ ((0 ≤ fo s ∧ fo s < nM) ∧ z1 = fo s ∧ z2 = fo s)) : FLr (s + 1) nM fo ((up (up u1 20 s z1) 21 s z2) 20) ((up (up u1 20 s z1) 21 s z2) 21) := by
  intro t t0 t1
  have e20 : (up (up u1 20 s z1) 21 s z2) 20 t = if t = s then z1 else u1 20 t := up_i u1 20 s z1 t
  have e21 : (up (up u1 20 s z1) 21 s z2) 21 t = if t = s then z2 else u1 21 t := up_i (up u1 20 s z1) 21 s z2 t
  rw [e20, e21]
  by_cases q : t = s
  · rw [if_pos q, if_pos q, q]; exact hz
  · rw [if_neg q, if_neg q]; exact h t t0 (by omega)
theorem vb_1 {seen nx : Int} (h : ¬ iAnd seen (iShl 1 nx) = 0) : vb seen nx = 1 := by
  rcases vb_01 seen nx with q | q
  · exact absurd (vb_and.mpr q) h
  · exact q
theorem nxU {a v b w : Int → Int} {k x r : Int} (h0 : jK a v b w k.toNat = 0) (e : r = if a k = x then b k else if b k = x then a k else -9) : (r = -9 ∧ (¬ jK a v b w k.toNat = 0 ∨ (¬ a k = x ∧ ¬ b k = x))) ∨ (jK a v b w k.toNat = 0 ∧ ((a k = x ∧ r = b k) ∨ (b k = x ∧ r = a k))) := by
  rcases nx_or e with q | q
  · exact Or.inl ⟨q.1, Or.inr q.2⟩
  · exact Or.inr ⟨h0, q⟩
theorem oc_all {a v b w f : Int → Int} {sn i m : Int} (h : ∀ j, 0 ≤ j → j < i → OCl a v b w sn (f j) m) (h1 : OCl a v b w sn (f i) m) (j : Int) (j0 : 0 ≤ j) (j1 : j < i + 1) : OCl a v b w sn (f j) m := by
  by_cases q : j = i
  · rw [q]; exact h1
  · exact h j j0 (by omega)
def TieOk (σ : St) (k : Int) : Prop := (0 ≤ σ 5 k ∧ σ 5 k < σ 1 0) ∧ (0 ≤ σ 6 k ∧ σ 6 k < 20) ∧ (0 ≤ σ 7 k ∧ σ 7 k < σ 1 0) ∧ (0 ≤ σ 8 k ∧ σ 8 k < 20) ∧ (0 ≤ σ 9 k ∧ σ 9 k ≤ 9) ∧ σ 5 k ≠ σ 7 k
section OS
variable {σ u2 : St} {sn nx k i root : Int}
theorem ocA (hj : (nx = -9 ∧ (¬ jK (σ 5) (σ 6) (σ 7) (σ 8) k.toNat = 0 ∨ (¬ σ 5 k = u2 23 i ∧ ¬ σ 7 k = u2 23 i))) ∨ (jK (σ 5) (σ 6) (σ 7) (σ 8) k.toNat = 0 ∧ ((σ 5 k = u2 23 i ∧ nx = σ 7 k) ∨ (σ 7 k = u2 23 i ∧ nx = σ 5 k)))) (hT : TieOk σ k) (h : nx < 0) : jK (σ 5) (σ 6) (σ 7) (σ 8) k.toNat = 0 → (σ 5 k = u2 23 i → vb sn (σ 7 k) = 1) ∧ (σ 7 k = u2 23 i → vb sn (σ 5 k) = 1) := by
  intro h0
  unfold TieOk at hT
  rcases hj with ⟨-, q⟩ | ⟨-, q⟩
  · rcases q with q | q
    · exact absurd h0 q
    · exact ⟨fun z => absurd z q.1, fun z => absurd z q.2⟩
  · exact absurd h (by omega)
theorem ocB (hj : (nx = -9 ∧ (¬ jK (σ 5) (σ 6) (σ 7) (σ 8) k.toNat = 0 ∨ (¬ σ 5 k = u2 23 i ∧ ¬ σ 7 k = u2 23 i))) ∨ (jK (σ 5) (σ 6) (σ 7) (σ 8) k.toNat = 0 ∧ ((σ 5 k = u2 23 i ∧ nx = σ 7 k) ∨ (σ 7 k = u2 23 i ∧ nx = σ 5 k)))) (hT : TieOk σ k) (hv : vb sn nx = 1) : jK (σ 5) (σ 6) (σ 7) (σ 8) k.toNat = 0 → (σ 5 k = u2 23 i → vb sn (σ 7 k) = 1) ∧ (σ 7 k = u2 23 i → vb sn (σ 5 k) = 1) := by
  intro h0
  rcases hj with ⟨-, q⟩ | ⟨-, q⟩
  · rcases q with q | q
    · exact absurd h0 q
    · exact ⟨fun z => absurd z q.1, fun z => absurd z q.2⟩
  · rcases q with ⟨q1, q2⟩ | ⟨q1, q2⟩
    · rw [q2] at hv
      exact ⟨fun _ => hv, fun z => absurd (q1.trans z.symm) hT.2.2.2.2.2⟩
    · rw [q2] at hv
      exact ⟨fun z => absurd (z.trans q1.symm) hT.2.2.2.2.2, fun _ => hv⟩
theorem os_add (hwf : WfC σ) (k0 : 0 ≤ k) (k1 : k < σ 4 0) (h2 : ∀ F, F ≠ 23 → F ≠ 24 → F ≠ 25 → u2 F = σ F) (h4 : OIv (σ 5) (σ 6) (σ 7) (σ 8) (σ 4 0).toNat root u2 sn) (h5 : 0 ≤ i ∧ i < u2 25 0) (h6 : ∀ j, 0 ≤ j → j < i → OCl (σ 5) (σ 6) (σ 7) (σ 8) sn (u2 23 j) (σ 4 0)) (h7 : OCl (σ 5) (σ 6) (σ 7) (σ 8) sn (u2 23 i) k) (hj : (nx = -9 ∧ (¬ jK (σ 5) (σ 6) (σ 7) (σ 8) k.toNat = 0 ∨ (¬ σ 5 k = u2 23 i ∧ ¬ σ 7 k = u2 23 i))) ∨ (jK (σ 5) (σ 6) (σ 7) (σ 8) k.toNat = 0 ∧ ((σ 5 k = u2 23 i ∧ nx = σ 7 k) ∨ (σ 7 k = u2 23 i ∧ nx = σ 5 k)))) (hn : 0 ≤ nx) (hv : vb sn nx = 0) : (0 ≤ k + 1 ∧ k + 1 ≤ σ 4 0) ∧ (∀ F, F ≠ 23 → F ≠ 24 → F ≠ 25 → (up (up (up u2 24 nx k) 23 (u2 25 0) nx) 25 0 (u2 25 0 + 1)) F = σ F) ∧ OIv (σ 5) (σ 6) (σ 7) (σ 8) (σ 4 0).toNat root (up (up (up u2 24 nx k) 23 (u2 25 0) nx) 25 0 (u2 25 0 + 1)) (iOr sn (iShl 1 nx)) ∧ (0 ≤ i ∧ i < (up (up (up u2 24 nx k) 23 (u2 25 0) nx) 25 0 (u2 25 0 + 1)) 25 0) ∧ (∀ j, 0 ≤ j → j < i → OCl (σ 5) (σ 6) (σ 7) (σ 8) (iOr sn (iShl 1 nx)) ((up (up (up u2 24 nx k) 23 (u2 25 0) nx) 25 0 (u2 25 0 + 1)) 23 j) (σ 4 0)) ∧ OCl (σ 5) (σ 6) (σ 7) (σ 8) (iOr sn (iShl 1 nx)) ((up (up (up u2 24 nx k) 23 (u2 25 0) nx) 25 0 (u2 25 0 + 1)) 23 i) (k + 1) := by
  obtain ⟨n1, n0, n4, n16⟩ := hwf.n
  have ht := hwf.tie k0 k1
  have hq : jK (σ 5) (σ 6) (σ 7) (σ 8) k.toNat = 0 ∧ ((σ 5 k = u2 23 i ∧ nx = σ 7 k) ∨ (σ 7 k = u2 23 i ∧ nx = σ 5 k)) := by
    rcases hj with q | q
    · omega
    · exact q
  have e23 : ∀ j, j ≠ u2 25 0 → (up (up (up u2 24 nx k) 23 (u2 25 0) nx) 25 0 (u2 25 0 + 1)) 23 j = u2 23 j := fun j hj => up_n (up u2 24 nx k) 23 nx hj
  have e25 : (up (up (up u2 24 nx k) 23 (u2 25 0) nx) 25 0 (u2 25 0 + 1)) 25 0 = u2 25 0 + 1 := up_s _ _ _ _
  have hN : ∀ m, m ≤ σ 4 0 → ∀ k : Nat, (k : Int) < m → 0 ≤ σ 5 k ∧ 0 ≤ σ 7 k := fun m hm k hk => by have := hwf.tie (k := (k : Int)) (by omega) (by omega); omega
  refine ⟨by omega, fun F a1 a2 a3 => ?_, OI_add h4 h5 (by omega) hq.1 hq.2 (by omega) hv, by rw [e25]; omega, fun j j0 j1 => ?_, ?_⟩
  · rw [← h2 F a1 a2 a3]
    funext j
    rw [up_f _ _ _ _ a3, up_f _ _ _ _ a1, up_f _ _ _ _ a2]
  · rw [e23 j (by omega)]
    exact OC_mono (vb_mono hn) (hN _ (Int.le_refl _)) (h6 j j0 j1)
  · rw [e23 i (by omega)]
    refine OC_step k0 (OC_mono (vb_mono hn) (hN _ (by omega)) h7) (fun _ => ?_)
    have hnv : vb (iOr sn (iShl 1 nx)) nx = 1 := by rw [vb_or hn hn, if_pos rfl]
    rcases hq.2 with ⟨q1, q2⟩ | ⟨q1, q2⟩
    · rw [q2] at hnv
      rw [q2]
      exact ⟨fun _ => hnv, fun z => absurd (q1.trans z.symm) ht.2.2.2.2.2⟩
    · rw [q2] at hnv
      rw [q2]
      exact ⟨fun z => absurd (z.trans q1.symm) ht.2.2.2.2.2, fun _ => hnv⟩
end OS
/-- the TIE to the parent, by a mark of the child -/
def LXc (σ : St) (child pm x : Int) : Int := σ 9 (σ 24 child) * (if σ 5 (σ 24 child) = child then drF (σ 6) (σ 8) (σ 24 child) (σ 15 x) pm else drF (σ 6) (σ 8) (σ 24 child) pm (σ 15 x))
theorem lxA {σ : St} {child pm m : Int} (h : σ 5 (σ 24 child) = child) (hT : TieOk σ (σ 24 child)) (hm : 20 ≤ σ 15 m ∧ σ 15 m ≤ 400) (hp : 20 ≤ pm ∧ pm ≤ 400) : σ 9 (σ 24 child) * ((pm * tk (σ 6 (σ 24 child)) - σ 15 m * tk (σ 8 (σ 24 child))).natAbs : Int) = LXc σ child pm m ∧ (0 ≤ ((pm * tk (σ 6 (σ 24 child)) - σ 15 m * tk (σ 8 (σ 24 child))).natAbs : Int) ∧ ((pm * tk (σ 6 (σ 24 child)) - σ 15 m * tk (σ 8 (σ 24 child))).natAbs : Int) ≤ 57600) ∧ (0 ≤ σ 9 (σ 24 child) * ((pm * tk (σ 6 (σ 24 child)) - σ 15 m * tk (σ 8 (σ 24 child))).natAbs : Int) ∧ σ 9 (σ 24 child) * ((pm * tk (σ 6 (σ 24 child)) - σ 15 m * tk (σ 8 (σ 24 child))).natAbs : Int) ≤ 518400) := by
  have r := hmF_rng (v := σ 6) (w := σ 8) (er := σ 9) (mk := fun z => z) (k := σ 24 child) (i := σ 15 m) (j := pm) hT.2.1 hT.2.2.2.1 hT.2.2.2.2.1 hm hp
  refine ⟨?_, r.1, r.2⟩
  unfold LXc
  rw [if_pos h]
  rfl
theorem lxB {σ : St} {child pm m : Int} (h : ¬ σ 5 (σ 24 child) = child) (hT : TieOk σ (σ 24 child)) (hm : 20 ≤ σ 15 m ∧ σ 15 m ≤ 400) (hp : 20 ≤ pm ∧ pm ≤ 400) : σ 9 (σ 24 child) * ((σ 15 m * tk (σ 6 (σ 24 child)) - pm * tk (σ 8 (σ 24 child))).natAbs : Int) = LXc σ child pm m ∧ (0 ≤ ((σ 15 m * tk (σ 6 (σ 24 child)) - pm * tk (σ 8 (σ 24 child))).natAbs : Int) ∧ ((σ 15 m * tk (σ 6 (σ 24 child)) - pm * tk (σ 8 (σ 24 child))).natAbs : Int) ≤ 57600) ∧ (0 ≤ σ 9 (σ 24 child) * ((σ 15 m * tk (σ 6 (σ 24 child)) - pm * tk (σ 8 (σ 24 child))).natAbs : Int) ∧ σ 9 (σ 24 child) * ((σ 15 m * tk (σ 6 (σ 24 child)) - pm * tk (σ 8 (σ 24 child))).natAbs : Int) ≤ 518400) := by
  have r := hmF_rng (v := σ 6) (w := σ 8) (er := σ 9) (mk := fun z => z) (k := σ 24 child) (i := pm) (j := σ 15 m) hT.2.1 hT.2.2.2.1 hT.2.2.2.2.1 hp hm
  refine ⟨?_, r.1, r.2⟩
  unfold LXc
  rw [if_neg h]
  rfl
theorem lfS {lo hi m least d : Int} {V L : Int → Int} (hd : d = L m) (hr : ((lo ≤ m ∧ m ≤ hi) ∧ (0 ≤ least ∧ least ≤ 1000000000)) ∧ (0 ≤ V m + d ∧ V m + d < 1000000000)) (hm : lo ≤ m) (h3 : ∀ x, lo ≤ x → x < m → least ≤ V x + L x) (h4 : (m = lo ∧ least = 1000000000) ∨ ∃ x, (lo ≤ x ∧ x < m) ∧ least = V x + L x) : (lo ≤ m + 1 ∧ m + 1 ≤ hi + 1) ∧ (0 ≤ min least (V m + d) ∧ min least (V m + d) ≤ 1000000000) ∧ (∀ x, lo ≤ x → x < m + 1 → min least (V m + d) ≤ V x + L x) ∧ ((m + 1 = lo ∧ min least (V m + d) = 1000000000) ∨ ∃ x, (lo ≤ x ∧ x < m + 1) ∧ min least (V m + d) = V x + L x) := by
  subst hd
  refine ⟨by omega, by omega, fun x x0 x1 => ?_, Or.inr ?_⟩
  · by_cases q : x = m
    · rw [q]; omega
    · have := h3 x x0 (by omega); omega
  · by_cases q : least ≤ V m + L m
    · rcases h4 with z | ⟨x, z1, z2⟩
      · omega
      · exact ⟨x, by omega, by omega⟩
    · exact ⟨m, by omega, by omega⟩
theorem lfE {lo hi m least : Int} {f : Int → Int} (hm : m = hi + 1 ∧ lo ≤ hi) (h4 : (m = lo ∧ least = 1000000000) ∨ ∃ x, (lo ≤ x ∧ x < m) ∧ least = f x) : ∃ x, (lo ≤ x ∧ x ≤ hi) ∧ least = f x := by
  rcases h4 with z | ⟨x, z1, z2⟩
  · omega
  · exact ⟨x, by omega, z2⟩
theorem gaZ {u2 : St} {s_ : Int} (g3 : ∀ s m, 0 ≤ s → s < s_ → 0 ≤ m → m < 16 → tc u2 s m = 0) (g4 : ∀ m, 0 ≤ m → m < 16 → tc u2 s_ m = 0) : ∀ s m, 0 ≤ s → s < s_ + 1 → 0 ≤ m → m < 16 → tc u2 s m = 0 := by
  intro s m a1 a2 a3 a4
  by_cases q : s = s_
  · rw [q]; exact g4 m a3 a4
  · exact g3 s m a1 (by omega) a3 a4
theorem gaY {u2 : St} {s_ m_ : Int} (g3 : ∀ s m, 0 ≤ s → s < s_ → 0 ≤ m → m < 16 → tc u2 s m = 0) (hm : 0 ≤ m_ ∧ m_ < 16) : ∀ s m, 0 ≤ s → s < s_ → 0 ≤ m → m < 16 → tc (up u2 22 (16 * s_ + m_) 0) s m = 0 := by
  intro s m a1 a2 a3 a4
  unfold tc
  rw [up_n _ _ _ (by omega)]
  exact g3 s m a1 a2 a3 a4
theorem gaX {u2 : St} {s_ m_ : Int} (g4 : ∀ m, 0 ≤ m → m < m_ → tc u2 s_ m = 0) : ∀ m, 0 ≤ m → m < m_ + 1 → tc (up u2 22 (16 * s_ + m_) 0) s_ m = 0 := by
  intro m a1 a2
  unfold tc
  rw [up_i]
  by_cases q : 16 * s_ + m = 16 * s_ + m_
  · rw [if_pos q]
  · rw [if_neg q]; exact g4 m a1 (by omega)
theorem gaI {σ u1 : St} {root : Int} (hwf : WfC σ) (hr : 0 ≤ root ∧ root < σ 1 0) (hT : TF (σ 5) (σ 6) (σ 7) (σ 8) (σ 4 0).toNat root (σ 25 0) (σ 23) (fun i => σ 24 (σ 23 i))) (hfl : ∀ s, 0 ≤ s → s < σ 1 0 → 0 ≤ σ 20 s ∧ σ 20 s ≤ σ 21 s ∧ σ 21 s < σ 16 0) (h3 : ∀ s m, 0 ≤ s → s < σ 1 0 → 0 ≤ m → m < 16 → tc u1 s m = 0) : DPI (σ 1 0) (ALc σ) (σ 5) (σ 7) (hmF (σ 6) (σ 8) (σ 9) (σ 15)) (σ 23) (fun i => σ 24 (σ 23 i)) (σ 25 0).toNat (tc u1) ((σ 25 0 - 1).toNat + 1) := by
  have c1 := hT.1
  have n16 := hwf.n.2.2.2
  rw [show (σ 25 0 - 1).toNat + 1 = (σ 25 0).toNat by omega]
  refine DP_init (fun t t0 t1 => TC_sec hwf hr hT t0 (by omega)) (fun s m s0 s1 hm => ?_)
  have f := hfl s s0 s1
  have h1 := hm.1
  have h2 := hm.2
  exact h3 s m s0 s1 (by omega) (by omega)
theorem gaJ {σ u1 : St} {z : Int} (h3 : ∀ s m, 0 ≤ s → s < σ 1 0 → 0 ≤ m → m < 16 → tc u1 s m = 0) : ∀ s m, 0 ≤ s → s < σ 1 0 → 0 ≤ m → m < 16 → 0 ≤ tc u1 s m ∧ tc u1 s m ≤ 518400 * zF z := by
  intro s m a1 a2 a3 a4
  rw [h3 s m a1 a2 a3 a4]
  have : 0 ≤ zF z := by
    unfold zF
    repeat' split
    all_goals omega
  omega
theorem gaP {σ : St} {x p : Int} (hp : p = if σ 5 (σ 24 (σ 23 x)) = σ 23 x then σ 7 (σ 24 (σ 23 x)) else if σ 7 (σ 24 (σ 23 x)) = σ 23 x then σ 5 (σ 24 (σ 23 x)) else -9) (hb : ∃ j, (0 ≤ j ∧ j < x) ∧ ((σ 23 j = σ 5 (σ 24 (σ 23 x)) ∧ σ 23 x = σ 7 (σ 24 (σ 23 x))) ∨ (σ 23 j = σ 7 (σ 24 (σ 23 x)) ∧ σ 23 x = σ 5 (σ 24 (σ 23 x))))) (hT : TieOk σ (σ 24 (σ 23 x))) : (0 ≤ p ∧ p < σ 1 0) ∧ p ≠ σ 23 x ∧ ((σ 5 (σ 24 (σ 23 x)) = σ 23 x ∧ ¬ σ 23 x = σ 7 (σ 24 (σ 23 x))) ∨ (¬ σ 5 (σ 24 (σ 23 x)) = σ 23 x ∧ σ 23 x = σ 7 (σ 24 (σ 23 x)))) := by
  obtain ⟨j, -, q⟩ := hb
  unfold TieOk at hT
  rcases q with ⟨q1, q2⟩ | ⟨q1, q2⟩
  · rw [if_neg (by omega), if_pos q2.symm] at hp
    omega
  · rw [if_pos q2.symm] at hp
    omega
theorem gaB {σ u3 u4 : St} {x p m : Int} (k4 : ∀ y, ¬ (16 * p + σ 20 p ≤ y ∧ y < 16 * p + m) → u4 22 y = u3 22 y) (hc : 0 ≤ σ 23 x ∧ σ 23 x < σ 1 0) (flp : 0 ≤ σ 20 p ∧ σ 20 p ≤ σ 21 p ∧ σ 21 p < σ 16 0) (hne : p ≠ σ 23 x) (fl : 0 ≤ σ 20 (σ 23 x) ∧ σ 20 (σ 23 x) ≤ σ 21 (σ 23 x) ∧ σ 21 (σ 23 x) < σ 16 0) (n16 : 0 ≤ σ 16 0 ∧ σ 16 0 ≤ 16) (k1 : σ 20 p ≤ m ∧ m ≤ σ 21 p + 1) (hB : ∀ s m, 0 ≤ s → s < σ 1 0 → 0 ≤ m → m < 16 → 0 ≤ tc u3 s m ∧ tc u3 s m ≤ 518400 * zF x) (hz : 0 ≤ zF x ∧ zF x ≤ 31) : ∀ y, σ 20 (σ 23 x) ≤ y → y ≤ σ 21 (σ 23 x) → 0 ≤ u4 22 (16 * σ 23 x + y) ∧ u4 22 (16 * σ 23 x + y) ≤ 518400 * 31 := by
  intro y y0 y1
  rw [k4 _ (by omega)]
  have := hB (σ 23 x) y hc.1 hc.2 (by omega) (by omega)
  unfold tc at this
  omega
theorem gaS {σ u3 u4 : St} {p m v : Int} (k1 : σ 20 p ≤ m) (k4 : ∀ y, ¬ (16 * p + σ 20 p ≤ y ∧ y < 16 * p + m) → u4 22 y = u3 22 y) : ∀ y, ¬ (16 * p + σ 20 p ≤ y ∧ y < 16 * p + (m + 1)) → up u4 22 (16 * p + m) v 22 y = u3 22 y := by
  intro y hy
  rw [up_n _ _ _ (by omega)]
  exact k4 y (by omega)
theorem LX_HX {σ : St} {x m y : Int} (hpt : (σ 5 (σ 24 (σ 23 x)) = σ 23 x ∧ ¬ σ 23 x = σ 7 (σ 24 (σ 23 x))) ∨ (¬ σ 5 (σ 24 (σ 23 x)) = σ 23 x ∧ σ 23 x = σ 7 (σ 24 (σ 23 x)))) : LXc σ (σ 23 x) (σ 15 m) y = HXc σ (σ 23 x) (σ 24 (σ 23 x)) m y := by
  unfold LXc HXc hmF
  rcases hpt with ⟨q1, q2⟩ | ⟨q1, q2⟩
  · rw [if_pos q1, if_neg q2]
  · rw [if_neg q1, if_pos q2]
theorem gaM {σ u3 u4 : St} {x p m r : Int} (k3 : ∀ F, F ≠ 22 → u4 F = σ F) (k1 : σ 20 p ≤ m ∧ m ≤ σ 21 p + 1) (flp : 0 ≤ σ 20 p ∧ σ 20 p ≤ σ 21 p ∧ σ 21 p < σ 16 0) (hc : 0 ≤ σ 23 x ∧ σ 23 x < σ 1 0) (hne : p ≠ σ 23 x) (fl : 0 ≤ σ 20 (σ 23 x) ∧ σ 20 (σ 23 x) ≤ σ 21 (σ 23 x) ∧ σ 21 (σ 23 x) < σ 16 0) (n16 : 0 ≤ σ 16 0 ∧ σ 16 0 ≤ 16)
    (hpt : (σ 5 (σ 24 (σ 23 x)) = σ 23 x ∧ ¬ σ 23 x = σ 7 (σ 24 (σ 23 x))) ∨ (¬ σ 5 (σ 24 (σ 23 x)) = σ 23 x ∧ σ 23 x = σ 7 (σ 24 (σ 23 x))))
    (k4 : ∀ y, ¬ (16 * p + σ 20 p ≤ y ∧ y < 16 * p + m) → u4 22 y = u3 22 y) (k5 : ∀ y, σ 20 p ≤ y → y < m → MUc σ u3 (σ 23 x) (σ 24 (σ 23 x)) y (u4 22 (16 * p + y) - u3 22 (16 * p + y)))
    (hle : ∀ y, u4 20 (σ 23 x) ≤ y → y ≤ u4 21 (σ 23 x) → r ≤ u4 22 (16 * σ 23 x + y) + LXc u4 (σ 23 x) (u4 15 m) y) (hex : ∃ y, (u4 20 (σ 23 x) ≤ y ∧ y ≤ u4 21 (σ 23 x)) ∧ r = u4 22 (16 * σ 23 x + y) + LXc u4 (σ 23 x) (u4 15 m) y) :
    ∀ y, σ 20 p ≤ y → y < m + 1 → MUc σ u3 (σ 23 x) (σ 24 (σ 23 x)) y (up u4 22 (16 * p + m) (u4 22 (16 * p + m) + r) 22 (16 * p + y) - u3 22 (16 * p + y)) := by
  have eL : ∀ y, LXc u4 (σ 23 x) (u4 15 m) y = HXc σ (σ 23 x) (σ 24 (σ 23 x)) m y := by
    intro y
    rw [← LX_HX hpt]
    unfold LXc
    rw [k3 9 (by decide), k3 24 (by decide), k3 5 (by decide), k3 6 (by decide), k3 8 (by decide), k3 15 (by decide)]
  have eC : ∀ y, σ 20 (σ 23 x) ≤ y → y ≤ σ 21 (σ 23 x) → u4 22 (16 * σ 23 x + y) = tc u3 (σ 23 x) y := fun y y0 y1 => k4 _ (by omega)
  rw [k3 20 (by decide), k3 21 (by decide)] at hle hex
  intro y y0 y1
  rw [up_i]
  by_cases q : y = m
  · subst q
    rw [if_pos rfl, k4 (16 * p + y) (by omega), show u3 22 (16 * p + y) + r - u3 22 (16 * p + y) = r by omega]
    refine ⟨fun z hz => ?_, ?_⟩
    · have := hle z hz.1 hz.2
      rw [eL, eC z hz.1 hz.2] at this
      exact this
    · obtain ⟨z, hz, e⟩ := hex
      rw [eL, eC z hz.1 hz.2] at e
      exact ⟨z, hz, e⟩
  · rw [if_neg (by omega)]
    exact k5 y y0 (by omega)
theorem chA {f : Int → Int} {lo m first : Int} (h3 : ∀ x, lo ≤ x → x < m → f first ≤ f x) (h : f m < f first) (x : Int) (x0 : lo ≤ x) (x1 : x < m + 1) : f m ≤ f x := by
  by_cases q : x = m
  · rw [q]; exact Int.le_refl _
  · have := h3 x x0 (by omega); omega
theorem chL {f : Int → Int} {lo m first : Int} (h3 : ∀ x, lo ≤ x → x < m → f first ≤ f x) (h : f m < f first) (x : Int) (x0 : lo ≤ x) (x1 : x < m) : f m < f x := by
  have := h3 x x0 x1; omega
theorem chB {f : Int → Int} {lo m first : Int} (h3 : ∀ x, lo ≤ x → x < m → f first ≤ f x) (h : f first ≤ f m) (x : Int) (x0 : lo ≤ x) (x1 : x < m + 1) : f first ≤ f x := by
  by_cases q : x = m
  · rw [q]; exact h
  · exact h3 x x0 (by omega)
/-- what is kept of the best play -/
def BI (u : St) : Prop := (u 19 0 = 0 ∨ u 19 0 = 1) ∧ (u 19 0 = 1 → ((u 1 0 = 0 ∨ u 16 0 = 0) ∧ u 18 0 = -9 ∧ ∀ t, 0 ≤ t → t < 7 → u 17 t = -9) ∨ ((¬ u 1 0 = 0 ∧ ¬ u 16 0 = 0) ∧ ∃ G, FBx (u 1 0) (u 3) (u 4 0) (u 5) (u 6) (u 7) (u 8) (u 9) (u 16 0) (u 15) G (u 18 0) ∧ ∀ t, 0 ≤ t → t < u 1 0 → (jS (u 5) (u 6) (u 7) (u 8) (u 4 0).toNat 0 t = jS (u 5) (u 6) (u 7) (u 8) (u 4 0).toNat 0 0 → (0 ≤ G t ∧ G t < u 16 0) ∧ u 17 t = u 15 (G t)) ∧ (¬ jS (u 5) (u 6) (u 7) (u 8) (u 4 0).toNat 0 t = jS (u 5) (u 6) (u 7) (u 8) (u 4 0).toNat 0 0 → u 17 t = -9)))
theorem BI_0 {u : St} (h : u 19 0 = 0) : BI u := ⟨Or.inl h, fun q => by omega⟩
theorem fi17 {u1 : St} {s_ : Int} (h5 : ∀ t, 0 ≤ t → t < s_ → u1 17 t = -9) : ∀ t, 0 ≤ t → t < s_ + 1 → up u1 17 s_ (-9) 17 t = -9 := by
  intro t t0 t1
  rw [up_i]
  by_cases q : t = s_
  · rw [if_pos q]
  · rw [if_neg q]; exact h5 t t0 (by omega)
theorem fiG {nS nM : Int} {F0 : Int → Int} (h : ∀ t, 0 ≤ t → t < nS → F0 t = -9 ∨ (0 ≤ F0 t ∧ F0 t < nM)) (hM : 1 ≤ nM) : ∃ g, aOk nS (ALf nM F0) g := by
  refine ⟨fun t => if F0 t = -9 then 0 else F0 t, fun s s0 s1 => ?_⟩
  unfold ALf
  dsimp only
  by_cases q : F0 s = -9
  · rw [if_pos q]; exact ⟨by omega, Or.inl q⟩
  · rw [if_neg q]
    exact ⟨(h s s0 s1).resolve_left q, Or.inr rfl⟩
section FI
variable {σ u1 u2 u62 u91 u97 u104 : St} {xh s_ f : Int}
theorem fiI (hfo : ∀ t, 0 ≤ t → t < σ 1 0 → (pinF (σ 15) (σ 16 0) (σ 3)) t = -9 ∨ (0 ≤ (pinF (σ 15) (σ 16 0) (σ 3)) t ∧ (pinF (σ 15) (σ 16 0) (σ 3)) t < σ 16 0)) (hmn : MinH (σ 1 0) (σ 16 0) (pinF (σ 15) (σ 16 0) (σ 3)) (HC (σ 4 0).toNat (σ 5) (σ 6) (σ 7) (σ 8) (σ 9) (σ 15)) xh) (h2 : ∀ F, (F < 17 ∨ 25 < F) → u1 F = σ F) (hn : ∀ F, F ≠ 20 → F ≠ 21 → u62 F = u1 F) (hf : FLr (u1 1 0) (u1 16 0) (pinF (u1 15) (u1 16 0) (u1 3)) (u62 20) (u62 21)) (h5 : ∀ t, 0 ≤ t → t < 7 → u1 17 t = -9) : ∃ fo, FPs (σ 1 0) (σ 16 0) (pinF (σ 15) (σ 16 0) (σ 3)) (HC (σ 4 0).toNat (σ 5) (σ 6) (σ 7) (σ 8) (σ 9) (σ 15)) (fun t => jS (σ 5) (σ 6) (σ 7) (σ 8) (σ 4 0).toNat 0 t = jS (σ 5) (σ 6) (σ 7) (σ 8) (σ 4 0).toNat 0 0) xh 0 fo ∧ FLr (σ 1 0) (σ 16 0) fo (u62 20) (u62 21) ∧ (∀ t, 0 ≤ t → t < 7 → ((t < 0 ∧ jS (σ 5) (σ 6) (σ 7) (σ 8) (σ 4 0).toNat 0 t = jS (σ 5) (σ 6) (σ 7) (σ 8) (σ 4 0).toNat 0 0) → u62 17 t = σ 15 (fo t)) ∧ (¬ (t < 0 ∧ jS (σ 5) (σ 6) (σ 7) (σ 8) (σ 4 0).toNat 0 t = jS (σ 5) (σ 6) (σ 7) (σ 8) (σ 4 0).toNat 0 0) → u62 17 t = -9)) ∧ ((1 : Int) ≤ 0 → u62 18 0 = xh) := by
  rw [h2 1 (by decide), h2 16 (by decide), h2 15 (by decide), h2 3 (by decide)] at hf
  refine ⟨(pinF (σ 15) (σ 16 0) (σ 3)), FP_0 hfo hmn, hf, fun t t0 t1 => ⟨fun q => by omega, fun _ => ?_⟩, fun q => by omega⟩
  rw [hn 17 (by decide) (by decide)]
  exact h5 t t0 t1
theorem TFx {root : Int} (hn : ∀ F, F ≠ 23 → F ≠ 24 → F ≠ 25 → u91 F = u2 F) (h : TF (u2 5) (u2 6) (u2 7) (u2 8) (u2 4 0).toNat root (u91 25 0) (u91 23) (fun i => u91 24 (u91 23 i))) : TF (u91 5) (u91 6) (u91 7) (u91 8) (u91 4 0).toNat root (u91 25 0) (u91 23) (fun i => u91 24 (u91 23 i)) := by
  rw [hn 5 (by decide) (by decide) (by decide), hn 6 (by decide) (by decide) (by decide), hn 7 (by decide) (by decide) (by decide), hn 8 (by decide) (by decide) (by decide), hn 4 (by decide) (by decide) (by decide)]
  exact h
theorem fiA (g2 : ∀ F, (F < 17 ∨ 25 < F) → u2 F = σ F) (hn : ∀ F, F ≠ 23 → F ≠ 24 → F ≠ 25 → u91 F = u2 F) (g4 : ∃ fo, FPs (σ 1 0) (σ 16 0) (pinF (σ 15) (σ 16 0) (σ 3)) (HC (σ 4 0).toNat (σ 5) (σ 6) (σ 7) (σ 8) (σ 9) (σ 15)) (fun t => jS (σ 5) (σ 6) (σ 7) (σ 8) (σ 4 0).toNat 0 t = jS (σ 5) (σ 6) (σ 7) (σ 8) (σ 4 0).toNat 0 0) xh s_ fo ∧ FLr (σ 1 0) (σ 16 0) fo (u2 20) (u2 21) ∧ (∀ t, 0 ≤ t → t < 7 → ((t < s_ ∧ jS (σ 5) (σ 6) (σ 7) (σ 8) (σ 4 0).toNat 0 t = jS (σ 5) (σ 6) (σ 7) (σ 8) (σ 4 0).toNat 0 0) → u2 17 t = σ 15 (fo t)) ∧ (¬ (t < s_ ∧ jS (σ 5) (σ 6) (σ 7) (σ 8) (σ 4 0).toNat 0 t = jS (σ 5) (σ 6) (σ 7) (σ 8) (σ 4 0).toNat 0 0) → u2 17 t = -9)) ∧ (1 ≤ s_ → u2 18 0 = xh)) (hM : 1 ≤ σ 16 0) : ∀ s, 0 ≤ s → s < u91 1 0 → 0 ≤ u91 20 s ∧ u91 20 s ≤ u91 21 s ∧ u91 21 s < u91 16 0 := by
  obtain ⟨fo, -, h, -⟩ := g4
  rw [hn 1 (by decide) (by decide) (by decide), hn 20 (by decide) (by decide) (by decide), hn 21 (by decide) (by decide) (by decide), hn 16 (by decide) (by decide) (by decide), g2 1 (by decide), g2 16 (by decide)]
  intro s s0 s1
  have := h s s0 s1
  omega
theorem fiC (g2 : ∀ F, (F < 17 ∨ 25 < F) → u2 F = σ F) (hn : ∀ F, F ≠ 23 → F ≠ 24 → F ≠ 25 → u91 F = u2 F) (hb : ∀ s m, 0 ≤ s → s < u91 1 0 → 0 ≤ m → m < 16 → 0 ≤ tc u97 s m ∧ tc u97 s m ≤ 518400 * 63) (s0 : 0 ≤ s_) (s1 : s_ < σ 1 0) : ∀ m, 0 ≤ m → m < 16 → 0 ≤ u97 22 (16 * s_ + m) ∧ u97 22 (16 * s_ + m) ≤ 518400 * 63 := by
  intro m m0 m1
  exact hb s_ m s0 (by rw [hn 1 (by decide) (by decide) (by decide), g2 1 (by decide)]; exact s1) m0 m1
theorem FRk (g2 : ∀ F, (F < 17 ∨ 25 < F) → u2 F = σ F) (hn : ∀ F, F ≠ 23 → F ≠ 24 → F ≠ 25 → u91 F = u2 F) (hn2 : ∀ F, F ≠ 22 → u97 F = u91 F) {z1 z2 : Int} (hu : u104 = up (up (up (up u97 20 s_ f) 21 s_ f) 18 0 z1) 17 s_ z2) : ∀ F, (F < 17 ∨ 25 < F) → u104 F = σ F := by
  intro F hF
  rw [← g2 F hF, ← hn F (by omega) (by omega) (by omega), ← hn2 F (by omega), hu]
  funext i
  rw [up_f _ _ _ _ (by omega), up_f _ _ _ _ (by omega), up_f _ _ _ _ (by omega), up_f _ _ _ _ (by omega)]
theorem K19 (g3 : u2 19 0 = 1) (hn : ∀ F, F ≠ 23 → F ≠ 24 → F ≠ 25 → u91 F = u2 F) (hn2 : ∀ F, F ≠ 22 → u97 F = u91 F) {z1 z2 : Int} (hu : u104 = up (up (up (up u97 20 s_ f) 21 s_ f) 18 0 z1) 17 s_ z2) : u104 19 0 = 1 := by
  rw [hu]
  show u97 19 0 = 1
  rw [hn2 19 (by decide), hn 19 (by decide) (by decide) (by decide)]
  exact g3
theorem fiS (hwf : WfC σ) (hs : (0 ≤ s_ ∧ s_ < σ 1 0) ∧ 1 ≤ σ 16 0) (pls : jS (σ 5) (σ 6) (σ 7) (σ 8) (σ 4 0).toNat 0 s_ = jS (σ 5) (σ 6) (σ 7) (σ 8) (σ 4 0).toNat 0 0) (g2 : ∀ F, (F < 17 ∨ 25 < F) → u2 F = σ F) (g4 : ∃ fo, FPs (σ 1 0) (σ 16 0) (pinF (σ 15) (σ 16 0) (σ 3)) (HC (σ 4 0).toNat (σ 5) (σ 6) (σ 7) (σ 8) (σ 9) (σ 15)) (fun t => jS (σ 5) (σ 6) (σ 7) (σ 8) (σ 4 0).toNat 0 t = jS (σ 5) (σ 6) (σ 7) (σ 8) (σ 4 0).toNat 0 0) xh s_ fo ∧ FLr (σ 1 0) (σ 16 0) fo (u2 20) (u2 21) ∧ (∀ t, 0 ≤ t → t < 7 → ((t < s_ ∧ jS (σ 5) (σ 6) (σ 7) (σ 8) (σ 4 0).toNat 0 t = jS (σ 5) (σ 6) (σ 7) (σ 8) (σ 4 0).toNat 0 0) → u2 17 t = σ 15 (fo t)) ∧ (¬ (t < s_ ∧ jS (σ 5) (σ 6) (σ 7) (σ 8) (σ 4 0).toNat 0 t = jS (σ 5) (σ 6) (σ 7) (σ 8) (σ 4 0).toNat 0 0) → u2 17 t = -9)) ∧ (1 ≤ s_ → u2 18 0 = xh))
    (ht : TF (u2 5) (u2 6) (u2 7) (u2 8) (u2 4 0).toNat s_ (u91 25 0) (u91 23) (fun i => u91 24 (u91 23 i))) (hn : ∀ F, F ≠ 23 → F ≠ 24 → F ≠ 25 → u91 F = u2 F) (hn2 : ∀ F, F ≠ 22 → u97 F = u91 F)
    (hd : DPI (u91 1 0) (ALc u91) (u91 5) (u91 7) (hmF (u91 6) (u91 8) (u91 9) (u91 15)) (u91 23) (fun i => u91 24 (u91 23 i)) (u91 25 0).toNat (tc u97) 1)
    (hf : u97 20 s_ ≤ f ∧ f ≤ u97 21 s_) (hm : ∀ x, u97 20 s_ ≤ x → x ≤ u97 21 s_ → u97 22 (16 * s_ + f) ≤ u97 22 (16 * s_ + x)) (hl : ∀ x, u97 20 s_ ≤ x → x < f → u97 22 (16 * s_ + f) < u97 22 (16 * s_ + x))
    (hu : u104 = up (up (up (up u97 20 s_ f) 21 s_ f) 18 0 (u97 22 (16 * s_ + f))) 17 s_ (u97 15 f)) :
    ∃ fo, FPs (σ 1 0) (σ 16 0) (pinF (σ 15) (σ 16 0) (σ 3)) (HC (σ 4 0).toNat (σ 5) (σ 6) (σ 7) (σ 8) (σ 9) (σ 15)) (fun t => jS (σ 5) (σ 6) (σ 7) (σ 8) (σ 4 0).toNat 0 t = jS (σ 5) (σ 6) (σ 7) (σ 8) (σ 4 0).toNat 0 0) xh (s_ + 1) fo ∧ FLr (σ 1 0) (σ 16 0) fo (u104 20) (u104 21) ∧ (∀ t, 0 ≤ t → t < 7 → ((t < s_ + 1 ∧ jS (σ 5) (σ 6) (σ 7) (σ 8) (σ 4 0).toNat 0 t = jS (σ 5) (σ 6) (σ 7) (σ 8) (σ 4 0).toNat 0 0) → u104 17 t = σ 15 (fo t)) ∧ (¬ (t < s_ + 1 ∧ jS (σ 5) (σ 6) (σ 7) (σ 8) (σ 4 0).toNat 0 t = jS (σ 5) (σ 6) (σ 7) (σ 8) (σ 4 0).toNat 0 0) → u104 17 t = -9)) ∧ (1 ≤ s_ + 1 → u104 18 0 = xh) := by
  obtain ⟨fo, h1, h2, h3, h4⟩ := g4
  have n1 := hwf.n.1
  have eu : ∀ F, F < 17 → u91 F = σ F := fun F hF => by rw [hn F (by omega) (by omega) (by omega), g2 F (by omega)]
  rw [g2 5 (by decide), g2 6 (by decide), g2 7 (by decide), g2 8 (by decide), g2 4 (by decide)] at ht
  rw [eu 1 (by decide), eu 5 (by decide), eu 7 (by decide), eu 6 (by decide), eu 8 (by decide), eu 9 (by decide), eu 15 (by decide)] at hd
  have e20 : u97 20 = u2 20 := by rw [hn2 20 (by decide), hn 20 (by decide) (by decide) (by decide)]
  have e21 : u97 21 = u2 21 := by rw [hn2 21 (by decide), hn 21 (by decide) (by decide) (by decide)]
  have f20 : u91 20 = u2 20 := hn 20 (by decide) (by decide) (by decide)
  have f21 : u91 21 = u2 21 := hn 21 (by decide) (by decide) (by decide)
  have f17 : u97 17 = u2 17 := by rw [hn2 17 (by decide), hn 17 (by decide) (by decide) (by decide)]
  have f15 : u97 15 = σ 15 := by rw [hn2 15 (by decide), eu 15 (by decide)]
  obtain ⟨dA, dB⟩ := DP_end hd
  have at0 : u91 23 0 = s_ := ht.2.1
  rw [at0] at dA dB
  have c1 := ht.1
  have h2' : FLr (σ 1 0) (σ 16 0) fo (u91 20) (u91 21) := by rw [f20, f21]; exact h2
  have key := FPc_step (C := fun m => u97 22 (16 * s_ + m)) (f := f) (fo' := fun t => if t = s_ then f else fo t) h1 hs.1 pls
    (fun g hg => by
      have := dA g ((FL_ok h2' g).mp hg)
      rw [HC_tree ht hwf.tok pls g] at this
      exact this)
    (fun g hg => by
      obtain ⟨g', o, e1, e2⟩ := dB g ((FL_ok h2' g).mp hg)
      rw [HC_tree ht hwf.tok pls g'] at e2
      exact ⟨g', (FL_ok h2' g').mpr o, e1, e2⟩)
    ((FL_iff h2 hs.1).mpr (by unfold ALc; rw [← e20, ← e21]; exact hf))
    (fun m hm' => by
      have := (FL_iff h2 hs.1).mp hm'
      unfold ALc at this
      rw [← e20, ← e21] at this
      exact hm m this.1 this.2)
    (fun m hm' hlt => by
      have := (FL_iff h2 hs.1).mp hm'
      unfold ALc at this
      rw [← e20, ← e21] at this
      exact hl m this.1 hlt)
    (fun t => rfl)
  have frng : 0 ≤ f ∧ f < σ 16 0 := by
    have := h2 s_ hs.1.1 hs.1.2
    rw [e20, e21] at hf
    omega
  have g20 : ∀ t, u104 20 t = if t = s_ then f else u2 20 t := fun t => by rw [hu]; show up u97 20 s_ f 20 t = _; rw [up_i, e20]
  have g21 : ∀ t, u104 21 t = if t = s_ then f else u2 21 t := fun t => by rw [hu]; show up (up u97 20 s_ f) 21 s_ f 21 t = _; rw [up_i]; show (if t = s_ then f else u97 21 t) = _; rw [e21]
  have g17 : ∀ t, u104 17 t = if t = s_ then σ 15 f else u2 17 t := fun t => by rw [hu, up_i, f15]; show (if t = s_ then σ 15 f else u97 17 t) = _; rw [f17]
  refine ⟨_, key.2, fun t t0 t1 => ?_, fun t t0 t1 => ?_, fun _ => ?_⟩
  · rw [g20, g21]
    dsimp only
    by_cases q : t = s_
    · rw [if_pos q, if_pos q, if_pos q]
      exact Or.inr ⟨frng, rfl, rfl⟩
    · rw [if_neg q, if_neg q, if_neg q]
      exact h2 t t0 t1
  · rw [g17]
    by_cases q : t = s_
    · rw [if_pos q]
      refine ⟨fun _ => by rw [if_pos q], fun z => absurd ⟨by omega, by rw [q]; exact pls⟩ z⟩
    · rw [if_neg q]
      have := h3 t t0 t1
      refine ⟨fun z => by rw [if_neg q]; exact this.1 ⟨by omega, z.2⟩, fun z => this.2 (fun y => z ⟨by omega, y.2⟩)⟩
  · rw [hu]
    show u97 22 (16 * s_ + f) = xh
    exact key.1
theorem fiK (hs : 0 ≤ s_) (hs1 : s_ < σ 1 0) (pls : ¬ jS (σ 5) (σ 6) (σ 7) (σ 8) (σ 4 0).toNat 0 s_ = jS (σ 5) (σ 6) (σ 7) (σ 8) (σ 4 0).toNat 0 0) (g4 : ∃ fo, FPs (σ 1 0) (σ 16 0) (pinF (σ 15) (σ 16 0) (σ 3)) (HC (σ 4 0).toNat (σ 5) (σ 6) (σ 7) (σ 8) (σ 9) (σ 15)) (fun t => jS (σ 5) (σ 6) (σ 7) (σ 8) (σ 4 0).toNat 0 t = jS (σ 5) (σ 6) (σ 7) (σ 8) (σ 4 0).toNat 0 0) xh s_ fo ∧ FLr (σ 1 0) (σ 16 0) fo (u2 20) (u2 21) ∧ (∀ t, 0 ≤ t → t < 7 → ((t < s_ ∧ jS (σ 5) (σ 6) (σ 7) (σ 8) (σ 4 0).toNat 0 t = jS (σ 5) (σ 6) (σ 7) (σ 8) (σ 4 0).toNat 0 0) → u2 17 t = σ 15 (fo t)) ∧ (¬ (t < s_ ∧ jS (σ 5) (σ 6) (σ 7) (σ 8) (σ 4 0).toNat 0 t = jS (σ 5) (σ 6) (σ 7) (σ 8) (σ 4 0).toNat 0 0) → u2 17 t = -9)) ∧ (1 ≤ s_ → u2 18 0 = xh)) : ∃ fo, FPs (σ 1 0) (σ 16 0) (pinF (σ 15) (σ 16 0) (σ 3)) (HC (σ 4 0).toNat (σ 5) (σ 6) (σ 7) (σ 8) (σ 9) (σ 15)) (fun t => jS (σ 5) (σ 6) (σ 7) (σ 8) (σ 4 0).toNat 0 t = jS (σ 5) (σ 6) (σ 7) (σ 8) (σ 4 0).toNat 0 0) xh (s_ + 1) fo ∧ FLr (σ 1 0) (σ 16 0) fo (u2 20) (u2 21) ∧ (∀ t, 0 ≤ t → t < 7 → ((t < s_ + 1 ∧ jS (σ 5) (σ 6) (σ 7) (σ 8) (σ 4 0).toNat 0 t = jS (σ 5) (σ 6) (σ 7) (σ 8) (σ 4 0).toNat 0 0) → u2 17 t = σ 15 (fo t)) ∧ (¬ (t < s_ + 1 ∧ jS (σ 5) (σ 6) (σ 7) (σ 8) (σ 4 0).toNat 0 t = jS (σ 5) (σ 6) (σ 7) (σ 8) (σ 4 0).toNat 0 0) → u2 17 t = -9)) ∧ (1 ≤ s_ + 1 → u2 18 0 = xh) := by
  obtain ⟨fo, h1, h2, h3, h4⟩ := g4
  have hs2 : 1 ≤ s_ := by
    by_cases q : s_ = 0
    · rw [q] at pls; exact absurd rfl pls
    · omega
  refine ⟨fo, FP_skip h1 ⟨hs, hs1⟩ (Or.inr pls), h2, fun t t0 t1 => ⟨fun z => ?_, fun z => ?_⟩, fun _ => h4 hs2⟩
  · refine (h3 t t0 t1).1 ⟨?_, z.2⟩
    by_cases q : t = s_
    · rw [q] at z; exact absurd z.2 pls
    · omega
  · exact (h3 t t0 t1).2 (fun y => z ⟨by omega, y.2⟩)
theorem fi0 (h2 : ∀ F, (F < 17 ∨ 25 < F) → u1 F = σ F) (h3 : u1 19 0 = 1) (h4 : u1 18 0 = -9) (h5 : ∀ t, 0 ≤ t → t < 7 → u1 17 t = -9) (h0 : u1 1 0 = 0 ∨ u1 16 0 = 0) : BI u1 := ⟨Or.inr h3, fun _ => Or.inl ⟨h0, h4, h5⟩⟩
theorem fiE (hwf : WfC σ) (g2 : ∀ F, (F < 17 ∨ 25 < F) → u2 F = σ F) (g3 : u2 19 0 = 1) (hS : ¬ σ 1 0 = 0) (hM : ¬ σ 16 0 = 0) (g4 : ∃ fo, FPs (σ 1 0) (σ 16 0) (pinF (σ 15) (σ 16 0) (σ 3)) (HC (σ 4 0).toNat (σ 5) (σ 6) (σ 7) (σ 8) (σ 9) (σ 15)) (fun t => jS (σ 5) (σ 6) (σ 7) (σ 8) (σ 4 0).toNat 0 t = jS (σ 5) (σ 6) (σ 7) (σ 8) (σ 4 0).toNat 0 0) xh (σ 1 0) fo ∧ FLr (σ 1 0) (σ 16 0) fo (u2 20) (u2 21) ∧ (∀ t, 0 ≤ t → t < 7 → ((t < σ 1 0 ∧ jS (σ 5) (σ 6) (σ 7) (σ 8) (σ 4 0).toNat 0 t = jS (σ 5) (σ 6) (σ 7) (σ 8) (σ 4 0).toNat 0 0) → u2 17 t = σ 15 (fo t)) ∧ (¬ (t < σ 1 0 ∧ jS (σ 5) (σ 6) (σ 7) (σ 8) (σ 4 0).toNat 0 t = jS (σ 5) (σ 6) (σ 7) (σ 8) (σ 4 0).toNat 0 0) → u2 17 t = -9)) ∧ (1 ≤ σ 1 0 → u2 18 0 = xh)) : BI u2 := by
  have n1 := hwf.n.1
  obtain ⟨fo, h1, h2, h3, h4⟩ := g4
  refine ⟨Or.inr g3, fun _ => Or.inr ?_⟩
  rw [g2 1 (by decide), g2 3 (by decide), g2 4 (by decide), g2 5 (by decide), g2 6 (by decide), g2 7 (by decide), g2 8 (by decide), g2 9 (by decide), g2 15 (by decide), g2 16 (by decide), h4 (by omega)]
  refine ⟨⟨hS, hM⟩, fo, FP_end h1, fun t t0 t1 => ⟨fun q => ⟨h1.2.2.2.1 t t0 t1 t1 q, (h3 t t0 (by omega)).1 ⟨t1, q⟩⟩, fun q => (h3 t t0 (by omega)).2 (fun z => q z.2)⟩⟩
theorem BI_g (hn : ∀ F, (F < 17 ∨ 25 < F) → u2 F = σ F) (hk : u2 19 0 = 1) (hb : BI u2) : ((σ 1 0 = 0 ∨ σ 16 0 = 0) ∧ u2 18 0 = -9 ∧ ∀ t, 0 ≤ t → t < 7 → u2 17 t = -9) ∨ ((¬ σ 1 0 = 0 ∧ ¬ σ 16 0 = 0) ∧ ∃ G, FBx (σ 1 0) (σ 3) (σ 4 0) (σ 5) (σ 6) (σ 7) (σ 8) (σ 9) (σ 16 0) (σ 15) G (u2 18 0) ∧ ∀ t, 0 ≤ t → t < σ 1 0 → (jS (σ 5) (σ 6) (σ 7) (σ 8) (σ 4 0).toNat 0 t = jS (σ 5) (σ 6) (σ 7) (σ 8) (σ 4 0).toNat 0 0 → (0 ≤ G t ∧ G t < σ 16 0) ∧ u2 17 t = σ 15 (G t)) ∧ (¬ jS (σ 5) (σ 6) (σ 7) (σ 8) (σ 4 0).toNat 0 t = jS (σ 5) (σ 6) (σ 7) (σ 8) (σ 4 0).toNat 0 0 → u2 17 t = -9)) := by
  have := hb.2 hk
  rw [hn 1 (by decide), hn 3 (by decide), hn 4 (by decide), hn 5 (by decide), hn 6 (by decide), hn 7 (by decide), hn 8 (by decide), hn 9 (by decide), hn 15 (by decide), hn 16 (by decide)] at this
  exact this
theorem haC (hn : ∀ F, (F < 17 ∨ 25 < F) → u2 F = σ F) (hk : u2 19 0 = 1) (hb : BI u2) : fHarm (σ 1 0) (σ 3) (σ 4 0) (σ 5) (σ 6) (σ 7) (σ 8) (σ 9) (σ 16 0) (σ 15) (u2 18 0) := by
  rcases BI_g hn hk hb with ⟨h0, h1, -⟩ | ⟨h0, G, h1, -⟩
  · exact Or.inl ⟨h0, h1⟩
  · exact Or.inr ⟨h0, G, h1⟩
theorem plC {s : Int} (n1 : 0 ≤ σ 1 0 ∧ σ 1 0 ≤ 7) (hn : ∀ F, (F < 17 ∨ 25 < F) → u2 F = σ F) (hk : u2 19 0 = 1) (hb : BI u2) (hs : 0 ≤ s ∧ s < σ 1 0) : fPlay (σ 1 0) (σ 3) (σ 4 0) (σ 5) (σ 6) (σ 7) (σ 8) (σ 9) (σ 16 0) (σ 15) s (u2 17 s) := by
  rcases BI_g hn hk hb with ⟨h0, -, h1⟩ | ⟨h0, G, h1, h2⟩
  · exact Or.inr (Or.inl ⟨hs, by omega, h1 s hs.1 (by omega)⟩)
  · by_cases q : jS (σ 5) (σ 6) (σ 7) (σ 8) (σ 4 0).toNat 0 s = jS (σ 5) (σ 6) (σ 7) (σ 8) (σ 4 0).toNat 0 0
    · exact Or.inr (Or.inr (Or.inr ⟨hs, h0.2, q, G, _, h1, ((h2 s hs.1 hs.2).1 q).2⟩))
    · exact Or.inr (Or.inr (Or.inl ⟨hs, h0.2, q, (h2 s hs.1 hs.2).2 q⟩))
theorem dcR {s : Int} (hwf : WfC σ) (hn : ∀ F, (F < 17 ∨ 25 < F) → u2 F = σ F) (hk : u2 19 0 = 1) (hb : BI u2) (hs : 0 ≤ s ∧ s < σ 1 0) : u2 17 s = -9 ∨ (20 ≤ u2 17 s ∧ u2 17 s ≤ 400) := by
  have n1 := hwf.n.1
  rcases BI_g hn hk hb with ⟨h0, -, h1⟩ | ⟨h0, G, h1, h2⟩
  · exact Or.inl (h1 s hs.1 (by omega))
  · by_cases q : jS (σ 5) (σ 6) (σ 7) (σ 8) (σ 4 0).toNat 0 s = jS (σ 5) (σ 6) (σ 7) (σ 8) (σ 4 0).toNat 0 0
    · obtain ⟨r, e⟩ := (h2 s hs.1 hs.2).1 q
      rw [e]
      exact Or.inr (hwf.mk r.1 r.2)
    · exact Or.inl ((h2 s hs.1 hs.2).2 q)
theorem dc9 {k : Int} (hwf : WfC σ) (hn : ∀ F, (F < 17 ∨ 25 < F) → u2 F = σ F) (hk : u2 19 0 = 1) (hb : BI u2) (hk2 : 0 ≤ k ∧ k < σ 4 0) (h : u2 17 (σ 5 k) = -9 ∨ u2 17 (σ 7 k) = -9) : fDrift (σ 1 0) (σ 3) (σ 4 0) (σ 5) (σ 6) (σ 7) (σ 8) (σ 9) (σ 16 0) (σ 15) k (-9) := by
  have n1 := hwf.n.1
  have ht := hwf.tie hk2.1 hk2.2
  rcases BI_g hn hk hb with ⟨h0, -, h1⟩ | ⟨h0, G, h1, h2⟩
  · exact Or.inr (Or.inl ⟨hk2, by omega, rfl⟩)
  · refine Or.inr (Or.inr (Or.inl ⟨hk2, h0.2, fun z => ?_, rfl⟩))
    obtain ⟨ra, ea⟩ := (h2 _ ht.1.1 ht.1.2).1 z.1
    obtain ⟨rb, eb⟩ := (h2 _ ht.2.2.1.1 ht.2.2.1.2).1 z.2
    have ma := hwf.mk ra.1 ra.2
    have mb := hwf.mk rb.1 rb.2
    omega
theorem dcK {k : Int} (hwf : WfC σ) (hn : ∀ F, (F < 17 ∨ 25 < F) → u2 F = σ F) (hk : u2 19 0 = 1) (hb : BI u2) (hk2 : 0 ≤ k ∧ k < σ 4 0) (e5 : u2 5 = σ 5) (e7 : u2 7 = σ 7) (ha : ¬ u2 17 (u2 5 k) = -9) (hb' : ¬ u2 17 (u2 7 k) = -9) : fDrift (σ 1 0) (σ 3) (σ 4 0) (σ 5) (σ 6) (σ 7) (σ 8) (σ 9) (σ 16 0) (σ 15) k ((u2 17 (u2 7 k) * tk (u2 6 k) - u2 17 (u2 5 k) * tk (u2 8 k)).natAbs : Int) := by
  have n1 := hwf.n.1
  have ht := hwf.tie hk2.1 hk2.2
  rw [e5] at ha ⊢
  rw [e7] at hb' ⊢
  rw [hn 6 (by decide), hn 8 (by decide)]
  rcases BI_g hn hk hb with ⟨h0, -, h1⟩ | ⟨h0, G, h1, h2⟩
  · exact absurd (h1 _ ht.1.1 (by omega)) ha
  · have za : jS (σ 5) (σ 6) (σ 7) (σ 8) (σ 4 0).toNat 0 (σ 5 k) = jS (σ 5) (σ 6) (σ 7) (σ 8) (σ 4 0).toNat 0 0 := Decidable.byContradiction (fun q => ha ((h2 _ ht.1.1 ht.1.2).2 q))
    have zb : jS (σ 5) (σ 6) (σ 7) (σ 8) (σ 4 0).toNat 0 (σ 7 k) = jS (σ 5) (σ 6) (σ 7) (σ 8) (σ 4 0).toNat 0 0 := Decidable.byContradiction (fun q => hb' ((h2 _ ht.2.2.1.1 ht.2.2.1.2).2 q))
    refine Or.inr (Or.inr (Or.inr ⟨hk2, h0.2, ⟨za, zb⟩, G, _, h1, ?_⟩))
    rw [((h2 _ ht.1.1 ht.1.2).1 za).2, ((h2 _ ht.2.2.1.1 ht.2.2.1.2).1 zb).2]
    rfl
end FI

set_option maxHeartbeats 4000000 in
set_option maxRecDepth 100000 in
theorem kX0_allowMarks (l : Launch) (D : va_G) (E : Nat → Nat) (q : Nat → Nat) (σ : St) (hwf : WfC σ) : CtV l D E yX0_allowMarks wsX0_allowMarks ({ frames := 1, cells := 0, slots := 0, locals := 22 } : Room) [.ref (q 39), .ref (q 36), .ref (q 38)] (CW E q σ) (CW E q) (fun (uu : St) => (∀ F, F ≠ 20 → F ≠ 21 → uu F = σ F) ∧ FLr (σ 1 0) (σ 16 0) (pinF (σ 15) (σ 16 0) (σ 3)) (uu 20) (uu 21)) := by
  refine mk_V (cc := cX0_allowMarks) (maxL := 5) (ret := none) (by decide) rfl (Nat.le_of_ble_eq_true rfl) ?_
  intro p e s m args below meth c A X hret
  have hin3 : ∀ x ∈ u_ws RX3 TX3 9, x ∈ wsX0_allowMarks := fun _ h => List.mem_cons_of_mem _ (List.mem_append_left _ (List.mem_append_left _ (List.mem_append_right _ h)))
  have hin0 : ∀ x ∈ u_ws RX0 TX0 9, x ∈ wsX0_allowMarks := fun _ h => List.mem_cons_of_mem _ (List.mem_append_left _ (List.mem_append_right _ h))
  have hin2 : ∀ x ∈ u_ws RX2 TX2 2, x ∈ wsX0_allowMarks := fun _ h => List.mem_cons_of_mem _ (List.mem_append_right _ h)
  refine z_lv (lv' := [(0, .ref (q 39)), (1, .ref (q 36)), (2, .ref (q 38))]) [0, 1, 2] rfl ?_
  obtain ⟨n1, n0, n4, n16⟩ := hwf.n
  refine z_iconst (pc' := 1) X dX0_allowMarks_0 rfl ?_
  refine z_istore_n (pc' := 2) (lv' := [(3, .int (jI 0)), (0, .ref (q 39)), (1, .ref (q 36)), (2, .ref (q 38))]) X dX0_allowMarks_1 rfl rfl (by decide) rfl ?_
  have lp2 : ∀ (nF : Nat) (s_ : Int) (u1 : St) , ((0 ≤ s_ ∧ s_ ≤ σ 1 0) ∧ (∀ F, F ≠ 20 → F ≠ 21 → u1 F = σ F) ∧ FLr s_ (σ 16 0) (pinF (σ 15) (σ 16 0) (σ 3)) (u1 20) (u1 21)) → ((7 - s_).toNat : Nat) < nF → J p l e (headSpec wsX0_allowMarks ({ frames := 1, cells := 0, slots := 0, locals := 22 } : Room)).room s m args below meth c D A 5 (MQ below (va_Qv (fun (uu : St) => (∀ F, F ≠ 20 → F ≠ 21 → uu F = σ F) ∧ FLr (σ 1 0) (σ 16 0) (pinF (σ 15) (σ 16 0) (σ 3)) (uu 20) (uu 21)) (Bw D (CW E q) A) A) args s 0 0 A) 2 [(3, .int (jI s_)), (0, .ref (q 39)), (1, .ref (q 36)), (2, .ref (q 38))] [] (CW E q u1) := by
    intro nF
    induction nF with
    | zero => intro s_ u1  hI hn; exact absurd hn (Nat.not_lt_zero _)
    | succ nF ih2 =>
      intro s_ u1  hI hn
      obtain ⟨h1, h2, h3⟩ := hI
      have w1 : WfC u1 := eqC.wf (σ := σ) (fun F hF => h2 F (by omega) (by omega)) hwf
      have e1 : u1 1 0 = σ 1 0 := by rw [h2 1 (by decide) (by decide)]
      have e16 : u1 16 0 = σ 16 0 := by rw [h2 16 (by decide) (by decide)]
      refine z_iload_n (pc' := 3) X dX0_allowMarks_2 rfl 0 rfl rfl ?_
      refine z_aload_n (pc' := 4) X dX0_allowMarks_3 rfl 2 rfl rfl ?_
      refine z_get (pc' := 7) (C := RX3) (ref := "PivotBeats$Piece") (T := TX3) (N := 9) (v := .int (jI (u1 1 0))) X dX0_allowMarks_4 rfl hin3 1 rfl rfl 0 (by decide) (by decide +kernel) rfl rfl ?_
      refine z_icmp_ge (tgt := 71) (pc' := 10) X dX0_allowMarks_7 (by decide) rfl (by omega) (fun h7 => ?_) (fun h7 => ?_)
      · exact z_vret (post := (fun (uu : St) => (∀ F, F ≠ 20 → F ≠ 21 → uu F = σ F) ∧ FLr (σ 1 0) (σ 16 0) (pinF (σ 15) (σ 16 0) (σ 3)) (uu 20) (uu 21))) X dX0_allowMarks_71 hret u1 (⟨h2, by have := h3; rw [show s_ = σ 1 0 by omega] at this; exact this⟩)
      · refine z_aload_n (pc' := 11) X dX0_allowMarks_10 rfl 3 rfl rfl ?_
        refine z_aload_n (pc' := 12) X dX0_allowMarks_11 rfl 2 rfl rfl ?_
        refine z_get (pc' := 15) (C := RX3) (ref := "PivotBeats$Piece") (T := TX3) (N := 9) (v := .ref (q 3)) X dX0_allowMarks_12 rfl hin3 1 rfl rfl 2 (by decide) (by decide +kernel) rfl rfl ?_
        refine z_iload_n (pc' := 16) X dX0_allowMarks_15 rfl 0 rfl rfl ?_
        refine z_iald (pc' := 17) (f := u1 3) (n := 7) X dX0_allowMarks_16 rfl 7 rfl (by decide) (by omega) ?_
        refine z_callVI (pc' := 20) (S := St) (As := [.int (jI (u1 3 s_))]) (rest := []) X dX0_allowMarks_17 rfl (kX2_indexOf l D E q u1 (u1 3 s_)  (w1) (by have := hwf.2.2.1 s_ (by omega) (by omega); rw [h2 3 (by decide) (by decide)]; omega)) (cwV 1 X.1.2.2.2.2 gX0_allowMarks_X2_indexOf rfl rfl rfl (by decide +kernel) ⟨Nat.le_of_ble_eq_true rfl, Nat.le_of_ble_eq_true rfl⟩) 3 rfl rfl rfl rfl (Nat.le_of_ble_eq_true rfl) (fun r17 u17 hp17 => ?_)
        obtain ⟨rfl, e17⟩ := hp17
        have ep : r17 = pinF (σ 15) (σ 16 0) (σ 3) s_ := by rw [e17, h2 15 (by decide) (by decide), h2 3 (by decide) (by decide), e16]; rfl
        have er := pinF_rng (σ 15) n16.1 (σ 3) s_
        refine z_istore (pc' := 22) (lv' := [(4, .int (jI r17)), (3, .int (jI s_)), (0, .ref (q 39)), (1, .ref (q 36)), (2, .ref (q 38))]) X dX0_allowMarks_20 rfl (by decide) rfl ?_
        refine z_aload_n (pc' := 23) X dX0_allowMarks_22 rfl 2 rfl rfl ?_
        refine z_get (pc' := 26) (C := RX0) (ref := "PivotBeats$BestPlay") (T := TX0) (N := 9) (v := .ref (q 20)) X dX0_allowMarks_23 rfl hin0 4 rfl rfl 3 (by decide) (by decide +kernel) rfl rfl ?_
        refine z_iload_n (pc' := 27) X dX0_allowMarks_26 rfl 1 rfl rfl ?_
        refine z_iload (pc' := 29) X dX0_allowMarks_27 rfl 0 rfl ?_
        refine z_bipush (pc' := 31) X dX0_allowMarks_29 rfl rfl ?_
        refine z_icmp_ne (tgt := 38) (pc' := 34) X dX0_allowMarks_31 (by decide) rfl (by omega) (fun h31 => ?_) (fun h31 => ?_)
        · refine z_iload (pc' := 40) X dX0_allowMarks_38 rfl 0 rfl ?_
          refine z_iast (pc' := 41) (f := u1 20) (n := 7) (w' := CW E q (up u1 20 s_ r17)) X dX0_allowMarks_40 rfl 20 rfl (by decide) (by omega) rfl ?_
          refine z_aload_n (pc' := 42) X dX0_allowMarks_41 rfl 2 rfl rfl ?_
          refine z_get (pc' := 45) (C := RX0) (ref := "PivotBeats$BestPlay") (T := TX0) (N := 9) (v := .ref (q 21)) X dX0_allowMarks_42 rfl hin0 4 rfl rfl 4 (by decide) (by decide +kernel) rfl rfl ?_
          refine z_iload_n (pc' := 46) X dX0_allowMarks_45 rfl 1 rfl rfl ?_
          refine z_iload (pc' := 48) X dX0_allowMarks_46 rfl 0 rfl ?_
          refine z_bipush (pc' := 50) X dX0_allowMarks_48 rfl rfl ?_
          refine z_icmp_ne (tgt := 62) (pc' := 53) X dX0_allowMarks_50 (by decide) rfl (by omega) (fun h50 => ?_) (fun h50 => by exfalso; omega)
          refine z_iload (pc' := 64) X dX0_allowMarks_62 rfl 0 rfl ?_
          refine z_iast (pc' := 65) (f := u1 21) (n := 7) (w' := CW E q (up (up u1 20 s_ r17) 21 s_ r17)) X dX0_allowMarks_64 rfl 21 rfl (by decide) (by omega) rfl ?_
          refine z_iinc (pc' := 68) (lv' := [(3, .int (jI (s_ + 1))), (4, .int (jI r17)), (0, .ref (q 39)), (1, .ref (q 36)), (2, .ref (q 38))]) X dX0_allowMarks_65 rfl 1 rfl (by decide) rfl ?_
          refine z_goto (tgt := 2) X dX0_allowMarks_68 (by decide) ?_
          refine z_lv (lv' := [(3, .int (jI (s_ + 1))), (0, .ref (q 39)), (1, .ref (q 36)), (2, .ref (q 38))]) [0, 2, 3, 4] rfl ?_
          exact ih2 (s_ + 1) (up (up u1 20 s_ r17) 21 s_ r17)  (⟨by omega, fun F a1 a2 => by rw [← h2 F a1 a2]; funext i; rw [up_f _ _ _ _ a2, up_f _ _ _ _ a1], by first | exact am_step h3 (Or.inl ⟨by omega, rfl, by rw [← e16]⟩) | exact am_step h3 (Or.inr ⟨by omega, by omega, by omega⟩)⟩) (by omega)
        · refine z_iconst (pc' := 35) X dX0_allowMarks_34 rfl ?_
          refine z_goto (tgt := 40) X dX0_allowMarks_35 (by decide) ?_
          refine z_iast (pc' := 41) (f := u1 20) (n := 7) (w' := CW E q (up u1 20 s_ 0)) X dX0_allowMarks_40 rfl 20 rfl (by decide) (by omega) rfl ?_
          refine z_aload_n (pc' := 42) X dX0_allowMarks_41 rfl 2 rfl rfl ?_
          refine z_get (pc' := 45) (C := RX0) (ref := "PivotBeats$BestPlay") (T := TX0) (N := 9) (v := .ref (q 21)) X dX0_allowMarks_42 rfl hin0 4 rfl rfl 4 (by decide) (by decide +kernel) rfl rfl ?_
          refine z_iload_n (pc' := 46) X dX0_allowMarks_45 rfl 1 rfl rfl ?_
          refine z_iload (pc' := 48) X dX0_allowMarks_46 rfl 0 rfl ?_
          refine z_bipush (pc' := 50) X dX0_allowMarks_48 rfl rfl ?_
          refine z_icmp_ne (tgt := 62) (pc' := 53) X dX0_allowMarks_50 (by decide) rfl (by omega) (fun h50 => by exfalso; omega) (fun h50 => ?_)
          refine z_aload_n (pc' := 54) X dX0_allowMarks_53 rfl 4 rfl rfl ?_
          refine z_get (pc' := 57) (C := RX2) (ref := "PivotBeats$Metronome") (T := TX2) (N := 2) (v := .int (jI (u1 16 0))) X dX0_allowMarks_54 rfl hin2 3 rfl rfl 1 (by decide) (by decide +kernel) rfl rfl ?_
          refine z_iconst (pc' := 58) X dX0_allowMarks_57 rfl ?_
          refine z_isub (pc' := 59) X dX0_allowMarks_58 rfl ?_
          refine z_goto (tgt := 64) X dX0_allowMarks_59 (by decide) ?_
          refine z_iast (pc' := 65) (f := u1 21) (n := 7) (w' := CW E q (up (up u1 20 s_ 0) 21 s_ ((u1 16 0) - 1))) X dX0_allowMarks_64 rfl 21 rfl (by decide) (by omega) rfl ?_
          refine z_iinc (pc' := 68) (lv' := [(3, .int (jI (s_ + 1))), (4, .int (jI r17)), (0, .ref (q 39)), (1, .ref (q 36)), (2, .ref (q 38))]) X dX0_allowMarks_65 rfl 1 rfl (by decide) rfl ?_
          refine z_goto (tgt := 2) X dX0_allowMarks_68 (by decide) ?_
          refine z_lv (lv' := [(3, .int (jI (s_ + 1))), (0, .ref (q 39)), (1, .ref (q 36)), (2, .ref (q 38))]) [0, 2, 3, 4] rfl ?_
          exact ih2 (s_ + 1) (up (up u1 20 s_ 0) 21 s_ ((u1 16 0) - 1))  (⟨by omega, fun F a1 a2 => by rw [← h2 F a1 a2]; funext i; rw [up_f _ _ _ _ a2, up_f _ _ _ _ a1], by first | exact am_step h3 (Or.inl ⟨by omega, rfl, by rw [← e16]⟩) | exact am_step h3 (Or.inr ⟨by omega, by omega, by omega⟩)⟩) (by omega)
  exact lp2 _ 0 σ  (⟨by omega, fun _ _ _ => rfl, fun s s0 s1 => by omega⟩) (Nat.lt_succ_self _)
set_option maxHeartbeats 4000000 in
set_option maxRecDepth 100000 in
theorem kX0_orderFrom (l : Launch) (D : va_G) (E : Nat → Nat) (q : Nat → Nat) (σ : St) (root : Int) (hwf : WfC σ) (hji : JI σ) (hr : 0 ≤ root ∧ root < σ 1 0) : CtV l D E yX0_orderFrom wsX0_orderFrom ({ frames := 1, cells := 0, slots := 0, locals := 22 } : Room) [.ref (q 39), .int (jI root), .ref (q 36), .ref (q 37)] (CW E q σ) (CW E q) (fun (uu : St) => (∀ F, F ≠ 23 → F ≠ 24 → F ≠ 25 → uu F = σ F) ∧ TF (σ 5) (σ 6) (σ 7) (σ 8) (σ 4 0).toNat root (uu 25 0) (uu 23) (fun i => uu 24 (uu 23 i))) := by
  refine mk_V (cc := cX0_orderFrom) (maxL := 8) (ret := none) (by decide) rfl (Nat.le_of_ble_eq_true rfl) ?_
  intro p e s m args below meth c A X hret
  have hin0 : ∀ x ∈ u_ws RX0 TX0 9, x ∈ wsX0_orderFrom := fun _ h => List.mem_cons_of_mem _ (List.mem_append_left _ (List.mem_append_left _ (List.mem_append_right _ h)))
  have hin3 : ∀ x ∈ u_ws RX3 TX3 9, x ∈ wsX0_orderFrom := fun _ h => List.mem_cons_of_mem _ (List.mem_append_left _ (List.mem_append_right _ h))
  have hin1 : ∀ x ∈ u_ws RX1 TX1 5, x ∈ wsX0_orderFrom := fun _ h => List.mem_cons_of_mem _ (List.mem_append_right _ h)
  refine z_lv (lv' := [(0, .ref (q 39)), (1, .int (jI root)), (2, .ref (q 36)), (3, .ref (q 37))]) [0, 1, 2, 3] rfl ?_
  obtain ⟨n1, n0, n4, n16⟩ := hwf.n
  have sh := shl7 (k := root) (by omega)
  refine z_iconst (pc' := 1) X dX0_orderFrom_0 rfl ?_
  refine z_iload_n (pc' := 2) X dX0_orderFrom_1 rfl 1 rfl rfl ?_
  refine z_ishl (pc' := 3) X dX0_orderFrom_2 rfl (by omega) ?_
  refine z_istore (pc' := 5) (lv' := [(4, .int (jI (iShl 1 root))), (0, .ref (q 39)), (1, .int (jI root)), (2, .ref (q 36)), (3, .ref (q 37))]) X dX0_orderFrom_3 rfl (by decide) rfl ?_
  refine z_aload_n (pc' := 6) X dX0_orderFrom_5 rfl 1 rfl rfl ?_
  refine z_get (pc' := 9) (C := RX0) (ref := "PivotBeats$BestPlay") (T := TX0) (N := 9) (v := .ref (q 23)) X dX0_orderFrom_6 rfl hin0 4 rfl rfl 6 (by decide) (by decide +kernel) rfl rfl ?_
  refine z_iconst (pc' := 10) X dX0_orderFrom_9 rfl ?_
  refine z_iload_n (pc' := 11) X dX0_orderFrom_10 rfl 2 rfl rfl ?_
  refine z_iast (pc' := 12) (f := σ 23) (n := 7) (w' := CW E q (up σ 23 0 root)) X dX0_orderFrom_11 rfl 22 rfl (by decide) (by omega) rfl ?_
  refine z_aload_n (pc' := 13) X dX0_orderFrom_12 rfl 1 rfl rfl ?_
  refine z_iconst (pc' := 14) X dX0_orderFrom_13 rfl ?_
  refine z_put (pc' := 17) (C := RX0) (ref := "PivotBeats$BestPlay") (T := TX0) (N := 9) (ty := .int) (w' := CW E q (up (up σ 23 0 root) 25 0 1)) X dX0_orderFrom_14 rfl hin0 tyX0 tyX0_ok nmX0 4 rfl rfl 8 (by decide) (by decide +kernel) rfl rfl (by decide +kernel) rfl rfl (Nat.le_of_ble_eq_true rfl) rfl ?_
  refine z_iconst (pc' := 18) X dX0_orderFrom_17 rfl ?_
  refine z_istore (pc' := 20) (lv' := [(5, .int (jI 0)), (4, .int (jI (iShl 1 root))), (0, .ref (q 39)), (1, .int (jI root)), (2, .ref (q 36)), (3, .ref (q 37))]) X dX0_orderFrom_18 rfl (by decide) rfl ?_
  have lp20 : ∀ (nF : Nat) (i : Int) (seen : Int) (u1 : St) , ((∀ F, F ≠ 23 → F ≠ 24 → F ≠ 25 → u1 F = σ F) ∧ (0 ≤ i ∧ i ≤ u1 25 0) ∧ OIv (σ 5) (σ 6) (σ 7) (σ 8) (σ 4 0).toNat root u1 seen ∧ ∀ j, 0 ≤ j → j < i → OCl (σ 5) (σ 6) (σ 7) (σ 8) seen (u1 23 j) (σ 4 0)) → ((7 - i).toNat : Nat) < nF → J p l e (headSpec wsX0_orderFrom ({ frames := 1, cells := 0, slots := 0, locals := 22 } : Room)).room s m args below meth c D A 8 (MQ below (va_Qv (fun (uu : St) => (∀ F, F ≠ 23 → F ≠ 24 → F ≠ 25 → uu F = σ F) ∧ TF (σ 5) (σ 6) (σ 7) (σ 8) (σ 4 0).toNat root (uu 25 0) (uu 23) (fun i => uu 24 (uu 23 i))) (Bw D (CW E q) A) A) args s 0 0 A) 20 [(5, .int (jI i)), (4, .int (jI seen)), (0, .ref (q 39)), (1, .int (jI root)), (2, .ref (q 36)), (3, .ref (q 37))] [] (CW E q u1) := by
    intro nF
    induction nF with
    | zero => intro i seen u1  hI hn; exact absurd hn (Nat.not_lt_zero _)
    | succ nF ih20 =>
      intro i seen u1  hI hn
      obtain ⟨g1, g2, g3, g4⟩ := hI
      have g5 := g3.1
      have u1w : WfC u1 := eqC.wf (σ := σ) (fun F hF => g1 F (by omega) (by omega) (by omega)) hwf
      refine z_iload (pc' := 22) X dX0_orderFrom_20 rfl 0 rfl ?_
      refine z_aload_n (pc' := 23) X dX0_orderFrom_22 rfl 2 rfl rfl ?_
      refine z_get (pc' := 26) (C := RX0) (ref := "PivotBeats$BestPlay") (T := TX0) (N := 9) (v := .int (jI (u1 25 0))) X dX0_orderFrom_23 rfl hin0 4 rfl rfl 8 (by decide) (by decide +kernel) rfl rfl ?_
      refine z_icmp_ge (tgt := 153) (pc' := 29) X dX0_orderFrom_26 (by decide) rfl (by omega) (fun h26 => ?_) (fun h26 => ?_)
      · exact z_vret (post := (fun (uu : St) => (∀ F, F ≠ 23 → F ≠ 24 → F ≠ 25 → uu F = σ F) ∧ TF (σ 5) (σ 6) (σ 7) (σ 8) (σ 4 0).toNat root (uu 25 0) (uu 23) (fun i => uu 24 (uu 23 i)))) X dX0_orderFrom_153 hret u1 (⟨g1, OI_TF g3 hwf.tok (by omega) (fun j j0 j1 => by have := g4 j j0 (by omega); rw [show (((σ 4 0).toNat : Nat) : Int) = σ 4 0 by omega]; exact this)⟩)
      · refine z_iload (pc' := 31) X dX0_orderFrom_29 rfl 0 rfl ?_
        refine z_bipush (pc' := 33) X dX0_orderFrom_31 rfl rfl ?_
        refine z_icmp_ge (tgt := 153) (pc' := 36) X dX0_orderFrom_33 (by decide) rfl (by omega) (fun h33 => by exfalso; omega) (fun h33 => ?_)
        refine z_iconst (pc' := 37) X dX0_orderFrom_36 rfl ?_
        refine z_istore (pc' := 39) (lv' := [(6, .int (jI 0)), (5, .int (jI i)), (4, .int (jI seen)), (0, .ref (q 39)), (1, .int (jI root)), (2, .ref (q 36)), (3, .ref (q 37))]) X dX0_orderFrom_37 rfl (by decide) rfl ?_
        have lp39 : ∀ (nF : Nat) (k : Int) (sn : Int) (u2 : St) , ((0 ≤ k ∧ k ≤ σ 4 0) ∧ (∀ F, F ≠ 23 → F ≠ 24 → F ≠ 25 → u2 F = σ F) ∧ OIv (σ 5) (σ 6) (σ 7) (σ 8) (σ 4 0).toNat root u2 sn ∧ (0 ≤ i ∧ i < u2 25 0) ∧ (∀ j, 0 ≤ j → j < i → OCl (σ 5) (σ 6) (σ 7) (σ 8) sn (u2 23 j) (σ 4 0)) ∧ OCl (σ 5) (σ 6) (σ 7) (σ 8) sn (u2 23 i) k) → ((12 - k).toNat : Nat) < nF → J p l e (headSpec wsX0_orderFrom ({ frames := 1, cells := 0, slots := 0, locals := 22 } : Room)).room s m args below meth c D A 8 (MQ below (va_Qv (fun (uu : St) => (∀ F, F ≠ 23 → F ≠ 24 → F ≠ 25 → uu F = σ F) ∧ TF (σ 5) (σ 6) (σ 7) (σ 8) (σ 4 0).toNat root (uu 25 0) (uu 23) (fun i => uu 24 (uu 23 i))) (Bw D (CW E q) A) A) args s 0 0 A) 39 [(6, .int (jI k)), (5, .int (jI i)), (4, .int (jI sn)), (0, .ref (q 39)), (1, .int (jI root)), (2, .ref (q 36)), (3, .ref (q 37))] [] (CW E q u2) := by
          intro nF
          induction nF with
          | zero => intro k sn u2  hI hn; exact absurd hn (Nat.not_lt_zero _)
          | succ nF ih39 =>
            intro k sn u2  hI hn
            obtain ⟨h1, h2, h4, h5, h6, h7⟩ := hI
            have h8 := h4.1
            have oi := h4.2.2.1 i h5.1 h5.2
            have u2w : WfC u2 := eqC.wf (σ := σ) (fun F hF => h2 F (by omega) (by omega) (by omega)) hwf
            have f4 : u2 4 0 = σ 4 0 := by rw [h2 4 (by decide) (by decide) (by decide)]
            refine z_iload (pc' := 41) X dX0_orderFrom_39 rfl 0 rfl ?_
            refine z_aload_n (pc' := 42) X dX0_orderFrom_41 rfl 5 rfl rfl ?_
            refine z_get (pc' := 45) (C := RX3) (ref := "PivotBeats$Piece") (T := TX3) (N := 9) (v := .int (jI (u2 4 0))) X dX0_orderFrom_42 rfl hin3 1 rfl rfl 3 (by decide) (by decide +kernel) rfl rfl ?_
            refine z_icmp_ge (tgt := 147) (pc' := 48) X dX0_orderFrom_45 (by decide) rfl (by omega) (fun h45 => ?_) (fun h45 => ?_)
            · refine z_iinc (pc' := 150) (lv' := [(5, .int (jI (i + 1))), (6, .int (jI k)), (4, .int (jI sn)), (0, .ref (q 39)), (1, .int (jI root)), (2, .ref (q 36)), (3, .ref (q 37))]) X dX0_orderFrom_147 rfl 1 rfl (by decide) rfl ?_
              refine z_goto (tgt := 20) X dX0_orderFrom_150 (by decide) ?_
              refine z_lv (lv' := [(5, .int (jI (i + 1))), (4, .int (jI sn)), (0, .ref (q 39)), (1, .int (jI root)), (2, .ref (q 36)), (3, .ref (q 37))]) [0, 2, 3, 4, 5, 6] rfl ?_
              exact ih20 (i + 1) sn u2  (⟨h2, by omega, h4, fun j j0 j1 => oc_all h6 (by rw [show k = σ 4 0 by omega] at h7; exact h7) j j0 j1⟩) (by omega)
            · have jk := hji.k (k := k) (by omega)
              have f14 : u2 14 k = σ 14 k := by rw [h2 14 (by decide) (by decide) (by decide)]
              refine z_aload_n (pc' := 49) X dX0_orderFrom_48 rfl 6 rfl rfl ?_
              refine z_get (pc' := 52) (C := RX1) (ref := "PivotBeats$Joins") (T := TX1) (N := 5) (v := .ref (q 14)) X dX0_orderFrom_49 rfl hin1 2 rfl rfl 4 (by decide) (by decide +kernel) rfl rfl ?_
              refine z_iload (pc' := 54) X dX0_orderFrom_52 rfl 0 rfl ?_
              refine z_iald (pc' := 55) (f := u2 14) (n := 12) X dX0_orderFrom_54 rfl 17 rfl (by decide) (by omega) ?_
              have jn76 : ∀ (nx : Int), ((nx = -9 ∧ (¬ jK (σ 5) (σ 6) (σ 7) (σ 8) k.toNat = 0 ∨ (¬ σ 5 k = u2 23 i ∧ ¬ σ 7 k = u2 23 i))) ∨ (jK (σ 5) (σ 6) (σ 7) (σ 8) k.toNat = 0 ∧ ((σ 5 k = u2 23 i ∧ nx = σ 7 k) ∨ (σ 7 k = u2 23 i ∧ nx = σ 5 k)))) → J p l e (headSpec wsX0_orderFrom ({ frames := 1, cells := 0, slots := 0, locals := 22 } : Room)).room s m args below meth c D A 8 (MQ below (va_Qv (fun (uu : St) => (∀ F, F ≠ 23 → F ≠ 24 → F ≠ 25 → uu F = σ F) ∧ TF (σ 5) (σ 6) (σ 7) (σ 8) (σ 4 0).toNat root (uu 25 0) (uu 23) (fun i => uu 24 (uu 23 i))) (Bw D (CW E q) A) A) args s 0 0 A) 76 [(6, .int (jI k)), (5, .int (jI i)), (4, .int (jI sn)), (0, .ref (q 39)), (1, .int (jI root)), (2, .ref (q 36)), (3, .ref (q 37))] [.int (jI nx)] (CW E q u2) := by
                intro nx hj76
                have ht := hwf.tie (k := k) (by omega) (by omega)
                have nr : nx = -9 ∨ (0 ≤ nx ∧ nx < 7) := by omega
                refine z_istore (pc' := 78) (lv' := [(7, .int (jI nx)), (6, .int (jI k)), (5, .int (jI i)), (4, .int (jI sn)), (0, .ref (q 39)), (1, .int (jI root)), (2, .ref (q 36)), (3, .ref (q 37))]) X dX0_orderFrom_76 rfl (by decide) rfl ?_
                refine z_iload (pc' := 80) X dX0_orderFrom_78 rfl 0 rfl ?_
                refine z_if_lt (tgt := 141) (pc' := 83) X dX0_orderFrom_80 (by decide) rfl (by omega) (fun h80 => ?_) (fun h80 => ?_)
                · try have vv := vb_1 h90
                  refine z_iinc (pc' := 144) (lv' := [(6, .int (jI (k + 1))), (7, .int (jI nx)), (5, .int (jI i)), (4, .int (jI sn)), (0, .ref (q 39)), (1, .int (jI root)), (2, .ref (q 36)), (3, .ref (q 37))]) X dX0_orderFrom_141 rfl 1 rfl (by decide) rfl ?_
                  refine z_goto (tgt := 39) X dX0_orderFrom_144 (by decide) ?_
                  refine z_lv (lv' := [(6, .int (jI (k + 1))), (5, .int (jI i)), (4, .int (jI sn)), (0, .ref (q 39)), (1, .int (jI root)), (2, .ref (q 36)), (3, .ref (q 37))]) [0, 2, 3, 4, 5, 6, 7] rfl ?_
                  exact ih39 (k + 1) sn u2  (by first | exact ⟨by omega, h2, h4, h5, h6, OC_step h1.1 h7 (ocA hj76 ht h80)⟩ | exact ⟨by omega, h2, h4, h5, h6, OC_step h1.1 h7 (ocB hj76 ht vv)⟩ | exact os_add hwf h1.1 (by omega) h2 h4 h5 h6 h7 hj76 (by omega) vv) (by omega)
                · refine z_iload (pc' := 85) X dX0_orderFrom_83 rfl 3 rfl ?_
                  refine z_iconst (pc' := 86) X dX0_orderFrom_85 rfl ?_
                  refine z_iload (pc' := 88) X dX0_orderFrom_86 rfl 0 rfl ?_
                  refine z_ishl (pc' := 89) X dX0_orderFrom_88 rfl (by omega) ?_
                  refine z_iand (pc' := 90) X dX0_orderFrom_89 rfl (by (have := shl7 (k := nx) (by omega); have := h4.2.2.2.2.2.2.2; omega)) ?_
                  refine z_if_ne (tgt := 141) (pc' := 93) X dX0_orderFrom_90 (by decide) rfl (by (have := iAnd_rng sn (iShl 1 nx); have := h4.2.2.2.2.2.2.2; omega)) (fun h90 => ?_) (fun h90 => ?_)
                  · try have vv := vb_1 h90
                    refine z_iinc (pc' := 144) (lv' := [(6, .int (jI (k + 1))), (7, .int (jI nx)), (5, .int (jI i)), (4, .int (jI sn)), (0, .ref (q 39)), (1, .int (jI root)), (2, .ref (q 36)), (3, .ref (q 37))]) X dX0_orderFrom_141 rfl 1 rfl (by decide) rfl ?_
                    refine z_goto (tgt := 39) X dX0_orderFrom_144 (by decide) ?_
                    refine z_lv (lv' := [(6, .int (jI (k + 1))), (5, .int (jI i)), (4, .int (jI sn)), (0, .ref (q 39)), (1, .int (jI root)), (2, .ref (q 36)), (3, .ref (q 37))]) [0, 2, 3, 4, 5, 6, 7] rfl ?_
                    exact ih39 (k + 1) sn u2  (by first | exact ⟨by omega, h2, h4, h5, h6, OC_step h1.1 h7 (ocA hj76 ht h80)⟩ | exact ⟨by omega, h2, h4, h5, h6, OC_step h1.1 h7 (ocB hj76 ht vv)⟩ | exact os_add hwf h1.1 (by omega) h2 h4 h5 h6 h7 hj76 (by omega) vv) (by omega)
                  · have vv := vb_and.mp h90
                    have fit := OI_fit h4 (show 0 ≤ nx ∧ nx < 7 by omega) vv
                    refine z_aload_n (pc' := 94) X dX0_orderFrom_93 rfl 4 rfl rfl ?_
                    refine z_get (pc' := 97) (C := RX0) (ref := "PivotBeats$BestPlay") (T := TX0) (N := 9) (v := .int (jI (u2 25 0))) X dX0_orderFrom_94 rfl hin0 4 rfl rfl 8 (by decide) (by decide +kernel) rfl rfl ?_
                    refine z_bipush (pc' := 99) X dX0_orderFrom_97 rfl rfl ?_
                    refine z_icmp_ge (tgt := 141) (pc' := 102) X dX0_orderFrom_99 (by decide) rfl (by omega) (fun h99 => by exfalso; omega) (fun h99 => ?_)
                    refine z_iload (pc' := 104) X dX0_orderFrom_102 rfl 3 rfl ?_
                    refine z_iconst (pc' := 105) X dX0_orderFrom_104 rfl ?_
                    refine z_iload (pc' := 107) X dX0_orderFrom_105 rfl 0 rfl ?_
                    refine z_ishl (pc' := 108) X dX0_orderFrom_107 rfl (by omega) ?_
                    refine z_ior (pc' := 109) X dX0_orderFrom_108 rfl (by (have := shl7 (k := nx) (by omega); have := h4.2.2.2.2.2.2.2; omega)) ?_
                    refine z_istore (pc' := 111) (lv' := [(4, .int (jI (iOr sn (iShl 1 nx)))), (7, .int (jI nx)), (6, .int (jI k)), (5, .int (jI i)), (0, .ref (q 39)), (1, .int (jI root)), (2, .ref (q 36)), (3, .ref (q 37))]) X dX0_orderFrom_109 rfl (by decide) rfl ?_
                    refine z_aload_n (pc' := 112) X dX0_orderFrom_111 rfl 4 rfl rfl ?_
                    refine z_get (pc' := 115) (C := RX0) (ref := "PivotBeats$BestPlay") (T := TX0) (N := 9) (v := .ref (q 24)) X dX0_orderFrom_112 rfl hin0 4 rfl rfl 7 (by decide) (by decide +kernel) rfl rfl ?_
                    refine z_iload (pc' := 117) X dX0_orderFrom_115 rfl 1 rfl ?_
                    refine z_iload (pc' := 119) X dX0_orderFrom_117 rfl 2 rfl ?_
                    refine z_iast (pc' := 120) (f := u2 24) (n := 7) (w' := CW E q (up u2 24 nx k)) X dX0_orderFrom_119 rfl 23 rfl (by decide) (by omega) rfl ?_
                    refine z_aload_n (pc' := 121) X dX0_orderFrom_120 rfl 4 rfl rfl ?_
                    refine z_get (pc' := 124) (C := RX0) (ref := "PivotBeats$BestPlay") (T := TX0) (N := 9) (v := .ref (q 23)) X dX0_orderFrom_121 rfl hin0 4 rfl rfl 6 (by decide) (by decide +kernel) rfl rfl ?_
                    refine z_aload_n (pc' := 125) X dX0_orderFrom_124 rfl 4 rfl rfl ?_
                    refine z_get (pc' := 128) (C := RX0) (ref := "PivotBeats$BestPlay") (T := TX0) (N := 9) (v := .int (jI (u2 25 0))) X dX0_orderFrom_125 rfl hin0 4 rfl rfl 8 (by decide) (by decide +kernel) rfl rfl ?_
                    refine z_iload (pc' := 130) X dX0_orderFrom_128 rfl 1 rfl ?_
                    refine z_iast (pc' := 131) (f := u2 23) (n := 7) (w' := CW E q (up (up u2 24 nx k) 23 (u2 25 0) nx)) X dX0_orderFrom_130 rfl 22 rfl (by decide) (by omega) rfl ?_
                    refine z_aload_n (pc' := 132) X dX0_orderFrom_131 rfl 4 rfl rfl ?_
                    refine z_dup (pc' := 133) X dX0_orderFrom_132 rfl rfl ?_
                    refine z_get (pc' := 136) (C := RX0) (ref := "PivotBeats$BestPlay") (T := TX0) (N := 9) (v := .int (jI (u2 25 0))) X dX0_orderFrom_133 rfl hin0 4 rfl rfl 8 (by decide) (by decide +kernel) rfl rfl ?_
                    refine z_iconst (pc' := 137) X dX0_orderFrom_136 rfl ?_
                    refine z_iadd (pc' := 138) X dX0_orderFrom_137 rfl ?_
                    refine z_put (pc' := 141) (C := RX0) (ref := "PivotBeats$BestPlay") (T := TX0) (N := 9) (ty := .int) (w' := CW E q (up (up (up u2 24 nx k) 23 (u2 25 0) nx) 25 0 ((u2 25 0) + 1))) X dX0_orderFrom_138 rfl hin0 tyX0 tyX0_ok nmX0 4 rfl rfl 8 (by decide) (by decide +kernel) rfl rfl (by decide +kernel) rfl rfl (Nat.le_of_ble_eq_true rfl) rfl ?_
                    try have vv := vb_1 h90
                    refine z_iinc (pc' := 144) (lv' := [(6, .int (jI (k + 1))), (4, .int (jI (iOr sn (iShl 1 nx)))), (7, .int (jI nx)), (5, .int (jI i)), (0, .ref (q 39)), (1, .int (jI root)), (2, .ref (q 36)), (3, .ref (q 37))]) X dX0_orderFrom_141 rfl 2 rfl (by decide) rfl ?_
                    refine z_goto (tgt := 39) X dX0_orderFrom_144 (by decide) ?_
                    refine z_lv (lv' := [(6, .int (jI (k + 1))), (5, .int (jI i)), (4, .int (jI (iOr sn (iShl 1 nx)))), (0, .ref (q 39)), (1, .int (jI root)), (2, .ref (q 36)), (3, .ref (q 37))]) [0, 3, 1, 4, 5, 6, 7] rfl ?_
                    exact ih39 (k + 1) (iOr sn (iShl 1 nx)) (up (up (up u2 24 nx k) 23 (u2 25 0) nx) 25 0 ((u2 25 0) + 1))  (by first | exact ⟨by omega, h2, h4, h5, h6, OC_step h1.1 h7 (ocA hj76 ht h80)⟩ | exact ⟨by omega, h2, h4, h5, h6, OC_step h1.1 h7 (ocB hj76 ht vv)⟩ | exact os_add hwf h1.1 (by omega) h2 h4 h5 h6 h7 hj76 (by omega) vv) (by omega)
              refine z_if_ne (tgt := 74) (pc' := 58) X dX0_orderFrom_55 (by decide) rfl (by (rw [f14]; omega)) (fun h55 => ?_) (fun h55 => ?_)
              · refine z_bipush (pc' := 76) X dX0_orderFrom_74 rfl rfl ?_
                exact jn76 (-9) (by first | exact Or.inl ⟨rfl, Or.inl (by omega)⟩ | exact nxU (by omega) (by rw [h2 5 (by decide) (by decide) (by decide), h2 7 (by decide) (by decide) (by decide)] at e68; exact e68))
              · refine z_aload_n (pc' := 59) X dX0_orderFrom_58 rfl 5 rfl rfl ?_
                refine z_iload (pc' := 61) X dX0_orderFrom_59 rfl 0 rfl ?_
                refine z_aload_n (pc' := 62) X dX0_orderFrom_61 rfl 3 rfl rfl ?_
                refine z_get (pc' := 65) (C := RX0) (ref := "PivotBeats$BestPlay") (T := TX0) (N := 9) (v := .ref (q 23)) X dX0_orderFrom_62 rfl hin0 4 rfl rfl 6 (by decide) (by decide +kernel) rfl rfl ?_
                refine z_iload (pc' := 67) X dX0_orderFrom_65 rfl 1 rfl ?_
                refine z_iald (pc' := 68) (f := u2 23) (n := 7) X dX0_orderFrom_67 rfl 22 rfl (by decide) (by omega) ?_
                refine z_callVI (pc' := 71) (S := St) (As := [.int (jI k), .int (jI (u2 23 i))]) (rest := []) X dX0_orderFrom_68 rfl (kX3_otherEnd l D E q u2 k (u2 23 i)  (u2w) (by rw [f4]; omega)) (cwV 2 X.1.2.2.2.2 gX0_orderFrom_X3_otherEnd rfl rfl rfl (by decide +kernel) ⟨Nat.le_of_ble_eq_true rfl, Nat.le_of_ble_eq_true rfl⟩) 1 rfl rfl rfl rfl (Nat.le_of_ble_eq_true rfl) (fun r68 u68 hp68 => ?_)
                obtain ⟨rfl, e68⟩ := hp68
                refine z_goto (tgt := 76) X dX0_orderFrom_71 (by decide) ?_
                exact jn76 r68 (by first | exact Or.inl ⟨rfl, Or.inl (by omega)⟩ | exact nxU (by omega) (by rw [h2 5 (by decide) (by decide) (by decide), h2 7 (by decide) (by decide) (by decide)] at e68; exact e68))
        exact lp39 _ 0 seen u1  (⟨by omega, g1, g3, by omega, g4, fun j hj => by omega⟩) (Nat.lt_succ_self _)
  exact lp20 _ 0 (iShl 1 root) (up (up σ 23 0 root) 25 0 1)  (⟨fun F a1 a2 a3 => by funext i; rw [up_f _ _ _ _ a3, up_f _ _ _ _ a1], by rw [up_s]; omega, OI_0 (by omega), fun j j0 j1 => by omega⟩) (Nat.lt_succ_self _)
set_option maxHeartbeats 4000000 in
set_option maxRecDepth 100000 in
theorem kX0_leastFrom (l : Launch) (D : va_G) (E : Nat → Nat) (q : Nat → Nat) (σ : St) (child pm : Int) (hwf : WfC σ) (hc : 0 ≤ child ∧ child < 7) (hk : 0 ≤ σ 24 child ∧ σ 24 child < σ 4 0) (hpm : 20 ≤ pm ∧ pm ≤ 400) (hfl : 0 ≤ σ 20 child ∧ σ 20 child ≤ σ 21 child ∧ σ 21 child < σ 16 0) (hb : ∀ x, σ 20 child ≤ x → x ≤ σ 21 child → 0 ≤ σ 22 (16 * child + x) ∧ σ 22 (16 * child + x) ≤ 518400 * 31) : CtI l D E yX0_leastFrom wsX0_leastFrom ({ frames := 2, cells := 0, slots := 0, locals := 63 } : Room) [.ref (q 39), .int (jI child), .int (jI pm), .ref (q 36), .ref (q 38)] (CW E q σ) (CW E q) (fun (rv : Int) (uu : St) => σ = uu ∧ ((∀ x, σ 20 child ≤ x → x ≤ σ 21 child → rv ≤ σ 22 (16 * child + x) + LXc σ child pm x) ∧ ∃ x, (σ 20 child ≤ x ∧ x ≤ σ 21 child) ∧ rv = σ 22 (16 * child + x) + LXc σ child pm x)) := by
  refine mk_I (cc := cX0_leastFrom) (maxL := 10) (ret := some .int) (by decide) rfl (Nat.le_of_ble_eq_true rfl) ?_
  intro p e s m args below meth c A X hret
  have hin0 : ∀ x ∈ u_ws RX0 TX0 9, x ∈ wsX0_leastFrom := fun _ h => List.mem_cons_of_mem _ (List.mem_append_left _ (List.mem_append_left _ (List.mem_append_right _ h)))
  have hin2 : ∀ x ∈ u_ws RX2 TX2 2, x ∈ wsX0_leastFrom := fun _ h => List.mem_cons_of_mem _ (List.mem_append_left _ (List.mem_append_right _ h))
  have hin3 : ∀ x ∈ u_ws RX3 TX3 9, x ∈ wsX0_leastFrom := fun _ h => List.mem_cons_of_mem _ (List.mem_append_right _ h)
  refine z_lv (lv' := [(0, .ref (q 39)), (1, .int (jI child)), (2, .int (jI pm)), (3, .ref (q 36)), (4, .ref (q 38))]) [0, 1, 2, 3, 4] rfl ?_
  obtain ⟨n1, n0, n4, n16⟩ := hwf.n
  have ht := hwf.tie (k := σ 24 child) hk.1 hk.2
  refine z_aload_n (pc' := 1) X dX0_leastFrom_0 rfl 0 rfl rfl ?_
  refine z_get (pc' := 4) (C := RX0) (ref := "PivotBeats$BestPlay") (T := TX0) (N := 9) (v := .ref (q 24)) X dX0_leastFrom_1 rfl hin0 4 rfl rfl 7 (by decide) (by decide +kernel) rfl rfl ?_
  refine z_iload_n (pc' := 5) X dX0_leastFrom_4 rfl 1 rfl rfl ?_
  refine z_iald (pc' := 6) (f := σ 24) (n := 7) X dX0_leastFrom_5 rfl 23 rfl (by decide) (by omega) ?_
  refine z_istore (pc' := 8) (lv' := [(5, .int (jI (σ 24 child))), (0, .ref (q 39)), (1, .int (jI child)), (2, .int (jI pm)), (3, .ref (q 36)), (4, .ref (q 38))]) X dX0_leastFrom_6 rfl (by decide) rfl ?_
  refine z_ldc (pc' := 10) (x := 1000000000) X dX0_leastFrom_8 rfl (by decide +kernel) rfl ?_
  refine z_istore (pc' := 12) (lv' := [(6, .int (jI 1000000000)), (5, .int (jI (σ 24 child))), (0, .ref (q 39)), (1, .int (jI child)), (2, .int (jI pm)), (3, .ref (q 36)), (4, .ref (q 38))]) X dX0_leastFrom_10 rfl (by decide) rfl ?_
  refine z_aload_n (pc' := 13) X dX0_leastFrom_12 rfl 2 rfl rfl ?_
  refine z_get (pc' := 16) (C := RX0) (ref := "PivotBeats$BestPlay") (T := TX0) (N := 9) (v := .ref (q 20)) X dX0_leastFrom_13 rfl hin0 4 rfl rfl 3 (by decide) (by decide +kernel) rfl rfl ?_
  refine z_iload_n (pc' := 17) X dX0_leastFrom_16 rfl 3 rfl rfl ?_
  refine z_iald (pc' := 18) (f := σ 20) (n := 7) X dX0_leastFrom_17 rfl 20 rfl (by decide) (by omega) ?_
  refine z_istore (pc' := 20) (lv' := [(7, .int (jI (σ 20 child))), (6, .int (jI 1000000000)), (5, .int (jI (σ 24 child))), (0, .ref (q 39)), (1, .int (jI child)), (2, .int (jI pm)), (3, .ref (q 36)), (4, .ref (q 38))]) X dX0_leastFrom_18 rfl (by decide) rfl ?_
  have lp20 : ∀ (nF : Nat) (m_ : Int) (least : Int) , ((σ 20 child ≤ m_ ∧ m_ ≤ σ 21 child + 1) ∧ (0 ≤ least ∧ least ≤ 1000000000) ∧ (∀ x, σ 20 child ≤ x → x < m_ → least ≤ σ 22 (16 * child + x) + LXc σ child pm x) ∧ ((m_ = σ 20 child ∧ least = 1000000000) ∨ ∃ x, (σ 20 child ≤ x ∧ x < m_) ∧ least = σ 22 (16 * child + x) + LXc σ child pm x)) → ((17 - m_).toNat : Nat) < nF → J p l e (headSpec wsX0_leastFrom ({ frames := 2, cells := 0, slots := 0, locals := 63 } : Room)).room s m args below meth c D A 10 (MQ below (va_Qi (fun r u => ∃ x, r = jI x ∧ (fun (rv : Int) (uu : St) => σ = uu ∧ ((∀ x, σ 20 child ≤ x → x ≤ σ 21 child → rv ≤ σ 22 (16 * child + x) + LXc σ child pm x) ∧ ∃ x, (σ 20 child ≤ x ∧ x ≤ σ 21 child) ∧ rv = σ 22 (16 * child + x) + LXc σ child pm x)) x u) (Bw D (CW E q) A) A) args s 0 0 A) 20 [(7, .int (jI m_)), (6, .int (jI least)), (5, .int (jI (σ 24 child))), (0, .ref (q 39)), (1, .int (jI child)), (2, .int (jI pm)), (3, .ref (q 36)), (4, .ref (q 38))] [] (CW E q σ) := by
    intro nF
    induction nF with
    | zero => intro m_ least  hI hn; exact absurd hn (Nat.not_lt_zero _)
    | succ nF ih20 =>
      intro m_ least  hI hn
      obtain ⟨h1, h2, h3, h4⟩ := hI
      have h5 := Int.le_refl m_
      refine z_iload (pc' := 22) X dX0_leastFrom_20 rfl 0 rfl ?_
      refine z_aload_n (pc' := 23) X dX0_leastFrom_22 rfl 3 rfl rfl ?_
      refine z_get (pc' := 26) (C := RX0) (ref := "PivotBeats$BestPlay") (T := TX0) (N := 9) (v := .ref (q 21)) X dX0_leastFrom_23 rfl hin0 4 rfl rfl 4 (by decide) (by decide +kernel) rfl rfl ?_
      refine z_iload_n (pc' := 27) X dX0_leastFrom_26 rfl 4 rfl rfl ?_
      refine z_iald (pc' := 28) (f := σ 21) (n := 7) X dX0_leastFrom_27 rfl 21 rfl (by decide) (by (clear h4; omega)) ?_
      refine z_icmp_gt (tgt := 108) (pc' := 31) X dX0_leastFrom_28 (by decide) rfl (by (clear h4; omega)) (fun h28 => ?_) (fun h28 => ?_)
      · refine z_iload (pc' := 110) X dX0_leastFrom_108 rfl 1 rfl ?_
        exact z_iret (post := (fun (rv : Int) (uu : St) => σ = uu ∧ ((∀ x, σ 20 child ≤ x → x ≤ σ 21 child → rv ≤ σ 22 (16 * child + x) + LXc σ child pm x) ∧ ∃ x, (σ 20 child ≤ x ∧ x ≤ σ 21 child) ∧ rv = σ 22 (16 * child + x) + LXc σ child pm x))) X dX0_leastFrom_110 hret σ (⟨rfl, fun x x0 x1 => h3 x x0 (by clear h4; omega), lfE (by clear h4; omega) h4⟩)
      · have hmk := hwf.mk (k := m_) (by clear h4; omega) (by clear h4; omega)
        have hbm := hb m_ (by clear h4; omega) (by clear h4; omega)
        refine z_aload (pc' := 33) X dX0_leastFrom_31 rfl 7 rfl ?_
        refine z_get (pc' := 36) (C := RX2) (ref := "PivotBeats$Metronome") (T := TX2) (N := 2) (v := .ref (q 15)) X dX0_leastFrom_33 rfl hin2 3 rfl rfl 0 (by decide) (by decide +kernel) rfl rfl ?_
        refine z_iload (pc' := 38) X dX0_leastFrom_36 rfl 0 rfl ?_
        refine z_iald (pc' := 39) (f := σ 15) (n := 16) X dX0_leastFrom_38 rfl 18 rfl (by decide) (by (clear h4; omega)) ?_
        refine z_istore (pc' := 41) (lv' := [(8, .int (jI (σ 15 m_))), (7, .int (jI m_)), (6, .int (jI least)), (5, .int (jI (σ 24 child))), (0, .ref (q 39)), (1, .int (jI child)), (2, .int (jI pm)), (3, .ref (q 36)), (4, .ref (q 38))]) X dX0_leastFrom_39 rfl (by decide) rfl ?_
        refine z_aload_n (pc' := 42) X dX0_leastFrom_41 rfl 7 rfl rfl ?_
        refine z_get (pc' := 45) (C := RX3) (ref := "PivotBeats$Piece") (T := TX3) (N := 9) (v := .ref (q 5)) X dX0_leastFrom_42 rfl hin3 1 rfl rfl 4 (by decide) (by decide +kernel) rfl rfl ?_
        refine z_iload (pc' := 47) X dX0_leastFrom_45 rfl 3 rfl ?_
        refine z_iald (pc' := 48) (f := σ 5) (n := 12) X dX0_leastFrom_47 rfl 8 rfl (by decide) (by (clear h4; omega)) ?_
        refine z_iload_n (pc' := 49) X dX0_leastFrom_48 rfl 5 rfl rfl ?_
        have jn73 : ∀ (dr : Int), (σ 9 (σ 24 child) * dr = LXc σ child pm m_ ∧ (0 ≤ dr ∧ dr ≤ 57600) ∧ (0 ≤ σ 9 (σ 24 child) * dr ∧ σ 9 (σ 24 child) * dr ≤ 518400)) → J p l e (headSpec wsX0_leastFrom ({ frames := 2, cells := 0, slots := 0, locals := 63 } : Room)).room s m args below meth c D A 10 (MQ below (va_Qi (fun r u => ∃ x, r = jI x ∧ (fun (rv : Int) (uu : St) => σ = uu ∧ ((∀ x, σ 20 child ≤ x → x ≤ σ 21 child → rv ≤ σ 22 (16 * child + x) + LXc σ child pm x) ∧ ∃ x, (σ 20 child ≤ x ∧ x ≤ σ 21 child) ∧ rv = σ 22 (16 * child + x) + LXc σ child pm x)) x u) (Bw D (CW E q) A) A) args s 0 0 A) 73 [(8, .int (jI (σ 15 m_))), (7, .int (jI m_)), (6, .int (jI least)), (5, .int (jI (σ 24 child))), (0, .ref (q 39)), (1, .int (jI child)), (2, .int (jI pm)), (3, .ref (q 36)), (4, .ref (q 38))] [.int (jI dr)] (CW E q σ) := by
          intro dr hj73
          refine z_istore (pc' := 75) (lv' := [(9, .int (jI dr)), (8, .int (jI (σ 15 m_))), (7, .int (jI m_)), (6, .int (jI least)), (5, .int (jI (σ 24 child))), (0, .ref (q 39)), (1, .int (jI child)), (2, .int (jI pm)), (3, .ref (q 36)), (4, .ref (q 38))]) X dX0_leastFrom_73 rfl (by decide) rfl ?_
          refine z_iload (pc' := 77) X dX0_leastFrom_75 rfl 3 rfl ?_
          refine z_aload_n (pc' := 78) X dX0_leastFrom_77 rfl 5 rfl rfl ?_
          refine z_get (pc' := 81) (C := RX0) (ref := "PivotBeats$BestPlay") (T := TX0) (N := 9) (v := .ref (q 22)) X dX0_leastFrom_78 rfl hin0 4 rfl rfl 5 (by decide) (by decide +kernel) rfl rfl ?_
          refine z_iload_n (pc' := 82) X dX0_leastFrom_81 rfl 6 rfl rfl ?_
          refine z_aald (pc' := 83) (b := q (50 + child.toNat)) X dX0_leastFrom_82 rfl 30 rfl (by decide) (by (clear h4; omega)) (if_pos (by (clear h4; omega))) ?_
          refine z_iload (pc' := 85) X dX0_leastFrom_83 rfl 2 rfl ?_
          refine z_hld (pc' := 86) (sx := child) X dX0_leastFrom_85 rfl (by (clear h4; omega)) (by (clear h4; omega)) ?_
          refine z_aload_n (pc' := 87) X dX0_leastFrom_86 rfl 8 rfl rfl ?_
          refine z_get (pc' := 90) (C := RX3) (ref := "PivotBeats$Piece") (T := TX3) (N := 9) (v := .ref (q 9)) X dX0_leastFrom_87 rfl hin3 1 rfl rfl 8 (by decide) (by decide +kernel) rfl rfl ?_
          refine z_iload (pc' := 92) X dX0_leastFrom_90 rfl 4 rfl ?_
          refine z_iald (pc' := 93) (f := σ 9) (n := 12) X dX0_leastFrom_92 rfl 12 rfl (by decide) (by (clear h4; omega)) ?_
          refine z_iload (pc' := 95) X dX0_leastFrom_93 rfl 0 rfl ?_
          refine z_imul (pc' := 96) X dX0_leastFrom_95 rfl ?_
          refine z_iadd (pc' := 97) X dX0_leastFrom_96 rfl ?_
          refine z_min (pc' := 100) X dX0_leastFrom_97 rfl (by decide +kernel) (by decide +kernel) (by decide +kernel) (by decide +kernel) ⟨Nat.le_of_ble_eq_true rfl, Nat.le_of_ble_eq_true rfl⟩ (by (clear h4; omega)) ?_
          refine z_istore (pc' := 102) (lv' := [(6, .int (jI (min least ((σ 22 (16 * child + m_)) + ((σ 9 (σ 24 child)) * dr))))), (9, .int (jI dr)), (8, .int (jI (σ 15 m_))), (7, .int (jI m_)), (5, .int (jI (σ 24 child))), (0, .ref (q 39)), (1, .int (jI child)), (2, .int (jI pm)), (3, .ref (q 36)), (4, .ref (q 38))]) X dX0_leastFrom_100 rfl (by decide) rfl ?_
          refine z_iinc (pc' := 105) (lv' := [(7, .int (jI (m_ + 1))), (6, .int (jI (min least ((σ 22 (16 * child + m_)) + ((σ 9 (σ 24 child)) * dr))))), (9, .int (jI dr)), (8, .int (jI (σ 15 m_))), (5, .int (jI (σ 24 child))), (0, .ref (q 39)), (1, .int (jI child)), (2, .int (jI pm)), (3, .ref (q 36)), (4, .ref (q 38))]) X dX0_leastFrom_102 rfl 3 rfl (by decide) rfl ?_
          refine z_goto (tgt := 20) X dX0_leastFrom_105 (by decide) ?_
          refine z_lv (lv' := [(7, .int (jI (m_ + 1))), (6, .int (jI (min least ((σ 22 (16 * child + m_)) + ((σ 9 (σ 24 child)) * dr))))), (5, .int (jI (σ 24 child))), (0, .ref (q 39)), (1, .int (jI child)), (2, .int (jI pm)), (3, .ref (q 36)), (4, .ref (q 38))]) [0, 1, 4, 5, 6, 7, 8, 9] rfl ?_
          exact ih20 (m_ + 1) (min least ((σ 22 (16 * child + m_)) + ((σ 9 (σ 24 child)) * dr)))  (lfS hj73.1 (by clear h4; omega) h1.1 h3 h4) (by clear h4; omega)
        refine z_icmp_ne (tgt := 64) (pc' := 52) X dX0_leastFrom_49 (by decide) rfl (by (clear h4; omega)) (fun h49 => ?_) (fun h49 => ?_)
        · refine z_aload_n (pc' := 65) X dX0_leastFrom_64 rfl 7 rfl rfl ?_
          refine z_iload (pc' := 67) X dX0_leastFrom_65 rfl 3 rfl ?_
          refine z_iload_n (pc' := 68) X dX0_leastFrom_67 rfl 6 rfl rfl ?_
          refine z_iload (pc' := 70) X dX0_leastFrom_68 rfl 0 rfl ?_
          refine z_callVI (pc' := 73) (S := St) (As := [.int (jI (σ 24 child)), .int (jI pm), .int (jI (σ 15 m_))]) (rest := []) X dX0_leastFrom_70 rfl (kX3_driftBy l D E q σ (σ 24 child) pm (σ 15 m_)  (hwf) (by omega)) (cwV 3 X.1.2.2.2.2 gX0_leastFrom_X3_driftBy rfl rfl rfl (by decide +kernel) ⟨Nat.le_of_ble_eq_true rfl, Nat.le_of_ble_eq_true rfl⟩) 1 rfl rfl rfl rfl (Nat.le_of_ble_eq_true rfl) (fun r70 u70 hp70 => ?_)
          obtain ⟨rfl, hp70⟩ := hp70; replace hp70 := hp70.symm; subst hp70
          exact jn73 (((σ 15 m_) * tk (σ 6 (σ 24 child)) - pm * tk (σ 8 (σ 24 child))).natAbs : Int) (by first | exact lxA h49 ht hmk hpm | exact lxB h49 ht hmk hpm)
        · refine z_aload_n (pc' := 53) X dX0_leastFrom_52 rfl 7 rfl rfl ?_
          refine z_iload (pc' := 55) X dX0_leastFrom_53 rfl 3 rfl ?_
          refine z_iload (pc' := 57) X dX0_leastFrom_55 rfl 0 rfl ?_
          refine z_iload_n (pc' := 58) X dX0_leastFrom_57 rfl 6 rfl rfl ?_
          refine z_callVI (pc' := 61) (S := St) (As := [.int (jI (σ 24 child)), .int (jI (σ 15 m_)), .int (jI pm)]) (rest := []) X dX0_leastFrom_58 rfl (kX3_driftBy l D E q σ (σ 24 child) (σ 15 m_) pm  (hwf) (by omega)) (cwV 3 X.1.2.2.2.2 gX0_leastFrom_X3_driftBy rfl rfl rfl (by decide +kernel) ⟨Nat.le_of_ble_eq_true rfl, Nat.le_of_ble_eq_true rfl⟩) 1 rfl rfl rfl rfl (Nat.le_of_ble_eq_true rfl) (fun r58 u58 hp58 => ?_)
          obtain ⟨rfl, hp58⟩ := hp58; replace hp58 := hp58.symm; subst hp58
          refine z_goto (tgt := 73) X dX0_leastFrom_61 (by decide) ?_
          exact jn73 ((pm * tk (σ 6 (σ 24 child)) - (σ 15 m_) * tk (σ 8 (σ 24 child))).natAbs : Int) (by first | exact lxA h49 ht hmk hpm | exact lxB h49 ht hmk hpm)
  exact lp20 _ (σ 20 child) 1000000000  (⟨by omega, by omega, fun x x0 x1 => by omega, Or.inl ⟨rfl, rfl⟩⟩) (Nat.lt_succ_self _)
set_option maxHeartbeats 4000000 in
set_option maxRecDepth 100000 in
theorem kX0_gather (l : Launch) (D : va_G) (E : Nat → Nat) (q : Nat → Nat) (σ : St) (root : Int) (hwf : WfC σ) (hr : 0 ≤ root ∧ root < σ 1 0) (hT : TF (σ 5) (σ 6) (σ 7) (σ 8) (σ 4 0).toNat root (σ 25 0) (σ 23) (fun i => σ 24 (σ 23 i))) (hfl : ∀ s, 0 ≤ s → s < σ 1 0 → 0 ≤ σ 20 s ∧ σ 20 s ≤ σ 21 s ∧ σ 21 s < σ 16 0) : CtV l D E yX0_gather wsX0_gather ({ frames := 3, cells := 0, slots := 0, locals := 92 } : Room) [.ref (q 39), .ref (q 36), .ref (q 38)] (CW E q σ) (CW E q) (fun (uu : St) => (∀ F, F ≠ 22 → uu F = σ F) ∧ DPI (σ 1 0) (ALc σ) (σ 5) (σ 7) (hmF (σ 6) (σ 8) (σ 9) (σ 15)) (σ 23) (fun i => σ 24 (σ 23 i)) (σ 25 0).toNat (tc uu) 1 ∧ ∀ s m, 0 ≤ s → s < σ 1 0 → 0 ≤ m → m < 16 → 0 ≤ tc uu s m ∧ tc uu s m ≤ 518400 * 63) := by
  refine mk_V (cc := cX0_gather) (maxL := 7) (ret := none) (by decide) rfl (Nat.le_of_ble_eq_true rfl) ?_
  intro p e s m args below meth c A X hret
  have hin3 : ∀ x ∈ u_ws RX3 TX3 9, x ∈ wsX0_gather := fun _ h => List.mem_cons_of_mem _ (List.mem_append_left _ (List.mem_append_left _ (List.mem_append_right _ h)))
  have hin0 : ∀ x ∈ u_ws RX0 TX0 9, x ∈ wsX0_gather := fun _ h => List.mem_cons_of_mem _ (List.mem_append_left _ (List.mem_append_right _ h))
  have hin2 : ∀ x ∈ u_ws RX2 TX2 2, x ∈ wsX0_gather := fun _ h => List.mem_cons_of_mem _ (List.mem_append_right _ h)
  refine z_lv (lv' := [(0, .ref (q 39)), (1, .ref (q 36)), (2, .ref (q 38))]) [0, 1, 2] rfl ?_
  obtain ⟨n1, n0, n4, n16⟩ := hwf.n
  have hsec := fun (t : Int) t0 t1 => TC_sec hwf hr hT (t := t) t0 t1
  have c1 := hT.1
  have c5 := hT.2.2.2.2.1
  refine z_iconst (pc' := 1) X dX0_gather_0 rfl ?_
  refine z_istore_n (pc' := 2) (lv' := [(3, .int (jI 0)), (0, .ref (q 39)), (1, .ref (q 36)), (2, .ref (q 38))]) X dX0_gather_1 rfl rfl (by decide) rfl ?_
  have lp2 : ∀ (nF : Nat) (s_ : Int) (u1 : St) , ((0 ≤ s_ ∧ s_ ≤ σ 1 0) ∧ (∀ F, F ≠ 22 → u1 F = σ F) ∧ ∀ s m, 0 ≤ s → s < s_ → 0 ≤ m → m < 16 → tc u1 s m = 0) → ((7 - s_).toNat : Nat) < nF → J p l e (headSpec wsX0_gather ({ frames := 3, cells := 0, slots := 0, locals := 92 } : Room)).room s m args below meth c D A 7 (MQ below (va_Qv (fun (uu : St) => (∀ F, F ≠ 22 → uu F = σ F) ∧ DPI (σ 1 0) (ALc σ) (σ 5) (σ 7) (hmF (σ 6) (σ 8) (σ 9) (σ 15)) (σ 23) (fun i => σ 24 (σ 23 i)) (σ 25 0).toNat (tc uu) 1 ∧ ∀ s m, 0 ≤ s → s < σ 1 0 → 0 ≤ m → m < 16 → 0 ≤ tc uu s m ∧ tc uu s m ≤ 518400 * 63) (Bw D (CW E q) A) A) args s 0 0 A) 2 [(3, .int (jI s_)), (0, .ref (q 39)), (1, .ref (q 36)), (2, .ref (q 38))] [] (CW E q u1) := by
    intro nF
    induction nF with
    | zero => intro s_ u1  hI hn; exact absurd hn (Nat.not_lt_zero _)
    | succ nF ih2 =>
      intro s_ u1  hI hn
      obtain ⟨h1, h2, h3⟩ := hI
      have e1 : u1 1 0 = σ 1 0 := by rw [h2 1 (by decide)]
      refine z_iload_n (pc' := 3) X dX0_gather_2 rfl 0 rfl rfl ?_
      refine z_aload_n (pc' := 4) X dX0_gather_3 rfl 2 rfl rfl ?_
      refine z_get (pc' := 7) (C := RX3) (ref := "PivotBeats$Piece") (T := TX3) (N := 9) (v := .int (jI (u1 1 0))) X dX0_gather_4 rfl hin3 1 rfl rfl 0 (by decide) (by decide +kernel) rfl rfl ?_
      refine z_icmp_ge (tgt := 42) (pc' := 10) X dX0_gather_7 (by decide) rfl (by omega) (fun h7 => ?_) (fun h7 => ?_)
      · refine z_aload_n (pc' := 43) X dX0_gather_42 rfl 1 rfl rfl ?_
        refine z_get (pc' := 46) (C := RX0) (ref := "PivotBeats$BestPlay") (T := TX0) (N := 9) (v := .int (jI (u1 25 0))) X dX0_gather_43 rfl hin0 4 rfl rfl 8 (by decide) (by decide +kernel) rfl rfl ?_
        refine z_iconst (pc' := 47) X dX0_gather_46 rfl ?_
        refine z_isub (pc' := 48) X dX0_gather_47 rfl ?_
        refine z_istore_n (pc' := 49) (lv' := [(3, .int (jI ((u1 25 0) - 1))), (0, .ref (q 39)), (1, .ref (q 36)), (2, .ref (q 38))]) X dX0_gather_48 rfl rfl (by decide) rfl ?_
        have lp49 : ∀ (nF : Nat) (x : Int) (u3 : St) , ((0 ≤ x ∧ x ≤ σ 25 0 - 1) ∧ (∀ F, F ≠ 22 → u3 F = σ F) ∧ DPI (σ 1 0) (ALc σ) (σ 5) (σ 7) (hmF (σ 6) (σ 8) (σ 9) (σ 15)) (σ 23) (fun i => σ 24 (σ 23 i)) (σ 25 0).toNat (tc u3) (x.toNat + 1) ∧ ∀ s m, 0 ≤ s → s < σ 1 0 → 0 ≤ m → m < 16 → 0 ≤ tc u3 s m ∧ tc u3 s m ≤ 518400 * zF x) → (x.toNat : Nat) < nF → J p l e (headSpec wsX0_gather ({ frames := 3, cells := 0, slots := 0, locals := 92 } : Room)).room s m args below meth c D A 7 (MQ below (va_Qv (fun (uu : St) => (∀ F, F ≠ 22 → uu F = σ F) ∧ DPI (σ 1 0) (ALc σ) (σ 5) (σ 7) (hmF (σ 6) (σ 8) (σ 9) (σ 15)) (σ 23) (fun i => σ 24 (σ 23 i)) (σ 25 0).toNat (tc uu) 1 ∧ ∀ s m, 0 ≤ s → s < σ 1 0 → 0 ≤ m → m < 16 → 0 ≤ tc uu s m ∧ tc uu s m ≤ 518400 * 63) (Bw D (CW E q) A) A) args s 0 0 A) 49 [(3, .int (jI x)), (0, .ref (q 39)), (1, .ref (q 36)), (2, .ref (q 38))] [] (CW E q u3) := by
          intro nF
          induction nF with
          | zero => intro x u3  hI hn; exact absurd hn (Nat.not_lt_zero _)
          | succ nF ih49 =>
            intro x u3  hI hn
            obtain ⟨g1, g2, g3, g4⟩ := hI
            have u3w : WfC u3 := eqC.wf (σ := σ) (fun F hF => g2 F (by omega)) hwf
            have e23 : u3 23 = σ 23 := g2 23 (by decide)
            have e24 : u3 24 = σ 24 := g2 24 (by decide)
            have f4 : u3 4 0 = σ 4 0 := by rw [g2 4 (by decide)]
            refine z_iload_n (pc' := 50) X dX0_gather_49 rfl 0 rfl rfl ?_
            refine z_if_le (tgt := 142) (pc' := 53) X dX0_gather_50 (by decide) rfl (by omega) (fun h50 => ?_) (fun h50 => ?_)
            · exact z_vret (post := (fun (uu : St) => (∀ F, F ≠ 22 → uu F = σ F) ∧ DPI (σ 1 0) (ALc σ) (σ 5) (σ 7) (hmF (σ 6) (σ 8) (σ 9) (σ 15)) (σ 23) (fun i => σ 24 (σ 23 i)) (σ 25 0).toNat (tc uu) 1 ∧ ∀ s m, 0 ≤ s → s < σ 1 0 → 0 ≤ m → m < 16 → 0 ≤ tc uu s m ∧ tc uu s m ≤ 518400 * 63)) X dX0_gather_142 hret u3 (⟨g2, by rw [show x = 0 by omega] at g3; exact g3, by rw [show x = 0 by omega] at g4; exact g4⟩)
            · have bx := c5 x (by omega) (by omega)
              have hch := hsec x (by omega) (by omega)
              dsimp only at bx
              have ht := hwf.tie (k := σ 24 (σ 23 x)) (by omega) (by omega)
              have flc := hfl _ hch.1 hch.2
              refine z_aload_n (pc' := 54) X dX0_gather_53 rfl 1 rfl rfl ?_
              refine z_get (pc' := 57) (C := RX0) (ref := "PivotBeats$BestPlay") (T := TX0) (N := 9) (v := .ref (q 23)) X dX0_gather_54 rfl hin0 4 rfl rfl 6 (by decide) (by decide +kernel) rfl rfl ?_
              refine z_iload_n (pc' := 58) X dX0_gather_57 rfl 0 rfl rfl ?_
              refine z_iald (pc' := 59) (f := u3 23) (n := 7) X dX0_gather_58 rfl 22 rfl (by decide) (by omega) ?_
              refine z_istore (pc' := 61) (lv' := [(4, .int (jI (u3 23 x))), (3, .int (jI x)), (0, .ref (q 39)), (1, .ref (q 36)), (2, .ref (q 38))]) X dX0_gather_59 rfl (by decide) rfl ?_
              refine z_aload_n (pc' := 62) X dX0_gather_61 rfl 3 rfl rfl ?_
              refine z_aload_n (pc' := 63) X dX0_gather_62 rfl 2 rfl rfl ?_
              refine z_get (pc' := 66) (C := RX0) (ref := "PivotBeats$BestPlay") (T := TX0) (N := 9) (v := .ref (q 24)) X dX0_gather_63 rfl hin0 4 rfl rfl 7 (by decide) (by decide +kernel) rfl rfl ?_
              refine z_iload (pc' := 68) X dX0_gather_66 rfl 0 rfl ?_
              refine z_iald (pc' := 69) (f := u3 24) (n := 7) X dX0_gather_68 rfl 23 rfl (by decide) (by (rw [e23]; omega)) ?_
              refine z_iload (pc' := 71) X dX0_gather_69 rfl 0 rfl ?_
              refine z_callVI (pc' := 74) (S := St) (As := [.int (jI (u3 24 (u3 23 x))), .int (jI (u3 23 x))]) (rest := []) X dX0_gather_71 rfl (kX3_otherEnd l D E q u3 (u3 24 (u3 23 x)) (u3 23 x)  (u3w) (by rw [e23, e24, f4]; omega)) (cwV 2 X.1.2.2.2.2 gX0_gather_X3_otherEnd rfl rfl rfl (by decide +kernel) ⟨Nat.le_of_ble_eq_true rfl, Nat.le_of_ble_eq_true rfl⟩) 1 rfl rfl rfl rfl (Nat.le_of_ble_eq_true rfl) (fun r71 u71 hp71 => ?_)
              obtain ⟨rfl, e71⟩ := hp71
              have hpe : r71 = if σ 5 (σ 24 (σ 23 x)) = σ 23 x then σ 7 (σ 24 (σ 23 x)) else if σ 7 (σ 24 (σ 23 x)) = σ 23 x then σ 5 (σ 24 (σ 23 x)) else -9 := by rw [e71, e23, e24, g2 5 (by decide), g2 7 (by decide)]
              obtain ⟨hpr, hpne, hpt⟩ := gaP hpe bx.2.2 ht
              have flp := hfl _ hpr.1 hpr.2
              refine z_istore (pc' := 76) (lv' := [(5, .int (jI r71)), (4, .int (jI (u3 23 x))), (3, .int (jI x)), (0, .ref (q 39)), (1, .ref (q 36)), (2, .ref (q 38))]) X dX0_gather_74 rfl (by decide) rfl ?_
              refine z_iload (pc' := 78) X dX0_gather_76 rfl 0 rfl ?_
              refine z_if_lt (tgt := 136) (pc' := 81) X dX0_gather_78 (by decide) rfl (by omega) (fun h78 => by exfalso; omega) (fun h78 => ?_)
              have f20 : u3 20 = σ 20 := g2 20 (by decide)
              refine z_aload_n (pc' := 82) X dX0_gather_81 rfl 3 rfl rfl ?_
              refine z_get (pc' := 85) (C := RX0) (ref := "PivotBeats$BestPlay") (T := TX0) (N := 9) (v := .ref (q 20)) X dX0_gather_82 rfl hin0 4 rfl rfl 3 (by decide) (by decide +kernel) rfl rfl ?_
              refine z_iload (pc' := 87) X dX0_gather_85 rfl 0 rfl ?_
              refine z_iald (pc' := 88) (f := u3 20) (n := 7) X dX0_gather_87 rfl 20 rfl (by decide) (by omega) ?_
              refine z_istore (pc' := 90) (lv' := [(6, .int (jI (u3 20 r71))), (5, .int (jI r71)), (4, .int (jI (u3 23 x))), (3, .int (jI x)), (0, .ref (q 39)), (1, .ref (q 36)), (2, .ref (q 38))]) X dX0_gather_88 rfl (by decide) rfl ?_
              have lp90 : ∀ (nF : Nat) (m_ : Int) (u4 : St) , ((σ 20 r71 ≤ m_ ∧ m_ ≤ σ 21 r71 + 1) ∧ (∀ F, F ≠ 22 → u4 F = σ F) ∧ (∀ y, ¬ (16 * r71 + σ 20 r71 ≤ y ∧ y < 16 * r71 + m_) → u4 22 y = u3 22 y) ∧ (∀ y, σ 20 r71 ≤ y → y < m_ → MUc σ u3 (σ 23 x) (σ 24 (σ 23 x)) y (u4 22 (16 * r71 + y) - u3 22 (16 * r71 + y)))) → ((17 - m_).toNat : Nat) < nF → J p l e (headSpec wsX0_gather ({ frames := 3, cells := 0, slots := 0, locals := 92 } : Room)).room s m args below meth c D A 7 (MQ below (va_Qv (fun (uu : St) => (∀ F, F ≠ 22 → uu F = σ F) ∧ DPI (σ 1 0) (ALc σ) (σ 5) (σ 7) (hmF (σ 6) (σ 8) (σ 9) (σ 15)) (σ 23) (fun i => σ 24 (σ 23 i)) (σ 25 0).toNat (tc uu) 1 ∧ ∀ s m, 0 ≤ s → s < σ 1 0 → 0 ≤ m → m < 16 → 0 ≤ tc uu s m ∧ tc uu s m ≤ 518400 * 63) (Bw D (CW E q) A) A) args s 0 0 A) 90 [(6, .int (jI m_)), (5, .int (jI r71)), (4, .int (jI (u3 23 x))), (3, .int (jI x)), (0, .ref (q 39)), (1, .ref (q 36)), (2, .ref (q 38))] [] (CW E q u4) := by
                intro nF
                induction nF with
                | zero => intro m_ u4  hI hn; exact absurd hn (Nat.not_lt_zero _)
                | succ nF ih90 =>
                  intro m_ u4  hI hn
                  obtain ⟨k1, k3, k4, k5⟩ := hI
                  have u4w : WfC u4 := eqC.wf (σ := σ) (fun F hF => k3 F (by omega)) hwf
                  have f21 : u4 21 = σ 21 := k3 21 (by decide)
                  refine z_iload (pc' := 92) X dX0_gather_90 rfl 0 rfl ?_
                  refine z_aload_n (pc' := 93) X dX0_gather_92 rfl 4 rfl rfl ?_
                  refine z_get (pc' := 96) (C := RX0) (ref := "PivotBeats$BestPlay") (T := TX0) (N := 9) (v := .ref (q 21)) X dX0_gather_93 rfl hin0 4 rfl rfl 4 (by decide) (by decide +kernel) rfl rfl ?_
                  refine z_iload (pc' := 98) X dX0_gather_96 rfl 1 rfl ?_
                  refine z_iald (pc' := 99) (f := u4 21) (n := 7) X dX0_gather_98 rfl 21 rfl (by decide) (by omega) ?_
                  refine z_icmp_gt (tgt := 136) (pc' := 102) X dX0_gather_99 (by decide) rfl (by (rw [f21]; omega)) (fun h99 => ?_) (fun h99 => ?_)
                  · refine z_iinc (pc' := 139) (lv' := [(3, .int (jI (x + (-1)))), (6, .int (jI m_)), (5, .int (jI r71)), (4, .int (jI (u3 23 x))), (0, .ref (q 39)), (1, .ref (q 36)), (2, .ref (q 38))]) X dX0_gather_136 rfl 3 rfl (by decide) rfl ?_
                    refine z_goto (tgt := 49) X dX0_gather_139 (by decide) ?_
                    refine z_lv (lv' := [(3, .int (jI (x + (-1)))), (0, .ref (q 39)), (1, .ref (q 36)), (2, .ref (q 38))]) [0, 4, 5, 6] rfl ?_
                    exact ih49 (x + (-1)) u4  (by have z := gat_step hwf hr hT hfl (by omega) hpe g3 g4 (by rw [show m_ = σ 21 r71 + 1 by rw [f21] at h99; omega] at k4; exact k4) (by rw [show m_ = σ 21 r71 + 1 by rw [f21] at h99; omega] at k5; exact k5); rw [show x + -1 = x - 1 by omega]; exact ⟨by omega, k3, by rw [show (x - 1).toNat + 1 = x.toNat by omega]; exact z.1, z.2⟩) (by omega)
                  · have hmk := hwf.mk (k := m_) (by omega) (by rw [f21] at h99; omega)
                    rw [f21] at h99
                    refine z_aload_n (pc' := 103) X dX0_gather_102 rfl 4 rfl rfl ?_
                    refine z_get (pc' := 106) (C := RX0) (ref := "PivotBeats$BestPlay") (T := TX0) (N := 9) (v := .ref (q 22)) X dX0_gather_103 rfl hin0 4 rfl rfl 5 (by decide) (by decide +kernel) rfl rfl ?_
                    refine z_iload (pc' := 108) X dX0_gather_106 rfl 1 rfl ?_
                    refine z_aald (pc' := 109) (b := q (50 + r71.toNat)) X dX0_gather_108 rfl 30 rfl (by decide) (by omega) (if_pos (by omega)) ?_
                    refine z_iload (pc' := 111) X dX0_gather_109 rfl 0 rfl ?_
                    refine z_dup2 (pc' := 112) X dX0_gather_111 rfl ⟨rfl, rfl⟩ ?_
                    refine z_hld (pc' := 113) (sx := r71) X dX0_gather_112 rfl (by omega) (by omega) ?_
                    refine z_aload_n (pc' := 114) X dX0_gather_113 rfl 4 rfl rfl ?_
                    refine z_iload (pc' := 116) X dX0_gather_114 rfl 2 rfl ?_
                    refine z_aload_n (pc' := 117) X dX0_gather_116 rfl 6 rfl rfl ?_
                    refine z_get (pc' := 120) (C := RX2) (ref := "PivotBeats$Metronome") (T := TX2) (N := 2) (v := .ref (q 15)) X dX0_gather_117 rfl hin2 3 rfl rfl 0 (by decide) (by decide +kernel) rfl rfl ?_
                    refine z_iload (pc' := 122) X dX0_gather_120 rfl 0 rfl ?_
                    refine z_iald (pc' := 123) (f := u4 15) (n := 16) X dX0_gather_122 rfl 18 rfl (by decide) (by omega) ?_
                    refine z_aload_n (pc' := 124) X dX0_gather_123 rfl 5 rfl rfl ?_
                    refine z_aload_n (pc' := 125) X dX0_gather_124 rfl 6 rfl rfl ?_
                    refine z_callVI (pc' := 128) (S := St) (As := [.int (jI (u3 23 x)), .int (jI (u4 15 m_)), .ref (q 36), .ref (q 38)]) (rest := [.int (jI (u4 22 (16 * r71 + m_))), .int (jI m_), .ref (q (50 + r71.toNat))]) X dX0_gather_125 rfl (kX0_leastFrom l D E q u4 (u3 23 x) (u4 15 m_)  (u4w) (by rw [e23]; omega) (by rw [e23, k3 24 (by decide), k3 4 (by decide)]; omega) (by rw [k3 15 (by decide)]; exact hmk) (by rw [e23, k3 20 (by decide), k3 21 (by decide), k3 16 (by decide)]; exact flc) (by rw [e23, k3 20 (by decide), k3 21 (by decide)]; exact gaB k4 hch flp hpne flc n16 k1 g4 (zF_step (i := x) (by omega)).2)) (cwV 4 X.1.2.2.2.2 gX0_gather_X0_leastFrom rfl rfl rfl (by decide +kernel) ⟨Nat.le_of_ble_eq_true rfl, Nat.le_of_ble_eq_true rfl⟩) 4 rfl rfl rfl rfl (Nat.le_of_ble_eq_true rfl) (fun r125 u125 hp125 => ?_)
                    obtain ⟨rfl, hp125⟩ := hp125
                    obtain ⟨hle125, hex125⟩ := hp125
                    refine z_iadd (pc' := 129) X dX0_gather_128 rfl ?_
                    refine z_hst (pc' := 130) (sx := r71) X dX0_gather_129 rfl (by omega) (by omega) ?_
                    refine z_iinc (pc' := 133) (lv' := [(6, .int (jI (m_ + 1))), (5, .int (jI r71)), (4, .int (jI (u3 23 x))), (3, .int (jI x)), (0, .ref (q 39)), (1, .ref (q 36)), (2, .ref (q 38))]) X dX0_gather_130 rfl 0 rfl (by decide) rfl ?_
                    refine z_goto (tgt := 90) X dX0_gather_133 (by decide) ?_
                    exact ih90 (m_ + 1) (up u4 22 (16 * r71 + m_) ((u4 22 (16 * r71 + m_)) + r125))  (⟨by omega, fun F hF => by rw [← k3 F hF]; funext i; exact up_f _ _ _ _ hF, gaS k1.1 k4, gaM k3 k1 flp hch hpne flc n16 hpt k4 k5 (by rw [← e23]; exact hle125) (by rw [← e23]; exact hex125)⟩) (by omega)
              exact lp90 _ (u3 20 r71) u3  (by rw [f20]; exact ⟨by omega, g2, fun y _ => rfl, fun y y0 y1 => by omega⟩) (Nat.lt_succ_self _)
        exact lp49 _ ((u1 25 0) - 1) u1  (by rw [h2 25 (by decide)]; exact ⟨by omega, h2, gaI hwf hr hT hfl (by rw [← show s_ = σ 1 0 by omega]; exact h3), gaJ (by rw [← show s_ = σ 1 0 by omega]; exact h3)⟩) (Nat.lt_succ_self _)
      · refine z_iconst (pc' := 11) X dX0_gather_10 rfl ?_
        refine z_istore (pc' := 13) (lv' := [(4, .int (jI 0)), (3, .int (jI s_)), (0, .ref (q 39)), (1, .ref (q 36)), (2, .ref (q 38))]) X dX0_gather_11 rfl (by decide) rfl ?_
        have lp13 : ∀ (nF : Nat) (m_ : Int) (u2 : St) , ((0 ≤ m_ ∧ m_ ≤ 16) ∧ (∀ F, F ≠ 22 → u2 F = σ F) ∧ (∀ s m, 0 ≤ s → s < s_ → 0 ≤ m → m < 16 → tc u2 s m = 0) ∧ ∀ m, 0 ≤ m → m < m_ → tc u2 s_ m = 0) → ((16 - m_).toNat : Nat) < nF → J p l e (headSpec wsX0_gather ({ frames := 3, cells := 0, slots := 0, locals := 92 } : Room)).room s m args below meth c D A 7 (MQ below (va_Qv (fun (uu : St) => (∀ F, F ≠ 22 → uu F = σ F) ∧ DPI (σ 1 0) (ALc σ) (σ 5) (σ 7) (hmF (σ 6) (σ 8) (σ 9) (σ 15)) (σ 23) (fun i => σ 24 (σ 23 i)) (σ 25 0).toNat (tc uu) 1 ∧ ∀ s m, 0 ≤ s → s < σ 1 0 → 0 ≤ m → m < 16 → 0 ≤ tc uu s m ∧ tc uu s m ≤ 518400 * 63) (Bw D (CW E q) A) A) args s 0 0 A) 13 [(4, .int (jI m_)), (3, .int (jI s_)), (0, .ref (q 39)), (1, .ref (q 36)), (2, .ref (q 38))] [] (CW E q u2) := by
          intro nF
          induction nF with
          | zero => intro m_ u2  hI hn; exact absurd hn (Nat.not_lt_zero _)
          | succ nF ih13 =>
            intro m_ u2  hI hn
            obtain ⟨g1, g2, g3, g4⟩ := hI
            refine z_iload (pc' := 15) X dX0_gather_13 rfl 0 rfl ?_
            refine z_bipush (pc' := 17) X dX0_gather_15 rfl rfl ?_
            refine z_icmp_ge (tgt := 36) (pc' := 20) X dX0_gather_17 (by decide) rfl (by omega) (fun h17 => ?_) (fun h17 => ?_)
            · refine z_iinc (pc' := 39) (lv' := [(3, .int (jI (s_ + 1))), (4, .int (jI m_)), (0, .ref (q 39)), (1, .ref (q 36)), (2, .ref (q 38))]) X dX0_gather_36 rfl 1 rfl (by decide) rfl ?_
              refine z_goto (tgt := 2) X dX0_gather_39 (by decide) ?_
              refine z_lv (lv' := [(3, .int (jI (s_ + 1))), (0, .ref (q 39)), (1, .ref (q 36)), (2, .ref (q 38))]) [0, 2, 3, 4] rfl ?_
              exact ih2 (s_ + 1) u2  (⟨by omega, g2, gaZ g3 (by rw [show m_ = 16 by omega] at g4; exact g4)⟩) (by omega)
            · refine z_aload_n (pc' := 21) X dX0_gather_20 rfl 2 rfl rfl ?_
              refine z_get (pc' := 24) (C := RX0) (ref := "PivotBeats$BestPlay") (T := TX0) (N := 9) (v := .ref (q 22)) X dX0_gather_21 rfl hin0 4 rfl rfl 5 (by decide) (by decide +kernel) rfl rfl ?_
              refine z_iload_n (pc' := 25) X dX0_gather_24 rfl 1 rfl rfl ?_
              refine z_aald (pc' := 26) (b := q (50 + s_.toNat)) X dX0_gather_25 rfl 30 rfl (by decide) (by omega) (if_pos (by omega)) ?_
              refine z_iload (pc' := 28) X dX0_gather_26 rfl 0 rfl ?_
              refine z_iconst (pc' := 29) X dX0_gather_28 rfl ?_
              refine z_hst (pc' := 30) (sx := s_) X dX0_gather_29 rfl (by omega) (by omega) ?_
              refine z_iinc (pc' := 33) (lv' := [(4, .int (jI (m_ + 1))), (3, .int (jI s_)), (0, .ref (q 39)), (1, .ref (q 36)), (2, .ref (q 38))]) X dX0_gather_30 rfl 0 rfl (by decide) rfl ?_
              refine z_goto (tgt := 13) X dX0_gather_33 (by decide) ?_
              exact ih13 (m_ + 1) (up u2 22 (16 * s_ + m_) 0)  (⟨by omega, fun F hF => by rw [← g2 F hF]; funext i; exact up_f _ _ _ _ hF, gaY g3 (by omega), gaX g4⟩) (by omega)
        exact lp13 _ 0 u1  (⟨by omega, h2, h3, fun m a1 a2 => by omega⟩) (Nat.lt_succ_self _)
  exact lp2 _ 0 σ  (⟨by omega, fun _ _ => rfl, fun s m a1 a2 => by omega⟩) (Nat.lt_succ_self _)
set_option maxHeartbeats 4000000 in
set_option maxRecDepth 100000 in
theorem kX0_choose (l : Launch) (D : va_G) (E : Nat → Nat) (q : Nat → Nat) (σ : St) (root : Int) (hwf : WfC σ) (hr : 0 ≤ root ∧ root < 7) (hfl : 0 ≤ σ 20 root ∧ σ 20 root ≤ σ 21 root ∧ σ 21 root < σ 16 0) (hb : ∀ m, 0 ≤ m → m < 16 → 0 ≤ σ 22 (16 * root + m) ∧ σ 22 (16 * root + m) ≤ 518400 * 63) : CtV l D E yX0_choose wsX0_choose ({ frames := 0, cells := 0, slots := 0, locals := 0 } : Room) [.ref (q 39), .int (jI root), .ref (q 38)] (CW E q σ) (CW E q) (fun (uu : St) => ∃ f, (σ 20 root ≤ f ∧ f ≤ σ 21 root) ∧ (∀ x, σ 20 root ≤ x → x ≤ σ 21 root → σ 22 (16 * root + f) ≤ σ 22 (16 * root + x)) ∧ (∀ x, σ 20 root ≤ x → x < f → σ 22 (16 * root + f) < σ 22 (16 * root + x)) ∧ uu = up (up (up (up σ 20 root f) 21 root f) 18 0 (σ 22 (16 * root + f))) 17 root (σ 15 f)) := by
  refine mk_V (cc := cX0_choose) (maxL := 5) (ret := none) (by decide) rfl (Nat.le_of_ble_eq_true rfl) ?_
  intro p e s m args below meth c A X hret
  have hin0 : ∀ x ∈ u_ws RX0 TX0 9, x ∈ wsX0_choose := fun _ h => List.mem_cons_of_mem _ (List.mem_append_left _ (List.mem_append_right _ h))
  have hin2 : ∀ x ∈ u_ws RX2 TX2 2, x ∈ wsX0_choose := fun _ h => List.mem_cons_of_mem _ (List.mem_append_right _ h)
  refine z_lv (lv' := [(0, .ref (q 39)), (1, .int (jI root)), (2, .ref (q 38))]) [0, 1, 2] rfl ?_
  obtain ⟨n1, n0, n4, n16⟩ := hwf.n
  refine z_aload_n (pc' := 1) X dX0_choose_0 rfl 0 rfl rfl ?_
  refine z_get (pc' := 4) (C := RX0) (ref := "PivotBeats$BestPlay") (T := TX0) (N := 9) (v := .ref (q 20)) X dX0_choose_1 rfl hin0 4 rfl rfl 3 (by decide) (by decide +kernel) rfl rfl ?_
  refine z_iload_n (pc' := 5) X dX0_choose_4 rfl 1 rfl rfl ?_
  refine z_iald (pc' := 6) (f := σ 20) (n := 7) X dX0_choose_5 rfl 20 rfl (by decide) (by omega) ?_
  refine z_istore_n (pc' := 7) (lv' := [(3, .int (jI (σ 20 root))), (0, .ref (q 39)), (1, .int (jI root)), (2, .ref (q 38))]) X dX0_choose_6 rfl rfl (by decide) rfl ?_
  refine z_iload_n (pc' := 8) X dX0_choose_7 rfl 0 rfl rfl ?_
  refine z_istore (pc' := 10) (lv' := [(4, .int (jI (σ 20 root))), (3, .int (jI (σ 20 root))), (0, .ref (q 39)), (1, .int (jI root)), (2, .ref (q 38))]) X dX0_choose_8 rfl (by decide) rfl ?_
  have lp10 : ∀ (nF : Nat) (m_ : Int) (first : Int) , ((σ 20 root ≤ first ∧ first ≤ σ 21 root) ∧ (σ 20 root ≤ m_ ∧ m_ ≤ σ 21 root + 1) ∧ (first < m_ ∨ (first = σ 20 root ∧ m_ = σ 20 root)) ∧ (∀ x, σ 20 root ≤ x → x < m_ → σ 22 (16 * root + first) ≤ σ 22 (16 * root + x)) ∧ (∀ x, σ 20 root ≤ x → x < first → σ 22 (16 * root + first) < σ 22 (16 * root + x))) → ((17 - m_).toNat : Nat) < nF → J p l e (headSpec wsX0_choose ({ frames := 0, cells := 0, slots := 0, locals := 0 } : Room)).room s m args below meth c D A 5 (MQ below (va_Qv (fun (uu : St) => ∃ f, (σ 20 root ≤ f ∧ f ≤ σ 21 root) ∧ (∀ x, σ 20 root ≤ x → x ≤ σ 21 root → σ 22 (16 * root + f) ≤ σ 22 (16 * root + x)) ∧ (∀ x, σ 20 root ≤ x → x < f → σ 22 (16 * root + f) < σ 22 (16 * root + x)) ∧ uu = up (up (up (up σ 20 root f) 21 root f) 18 0 (σ 22 (16 * root + f))) 17 root (σ 15 f)) (Bw D (CW E q) A) A) args s 0 0 A) 10 [(4, .int (jI m_)), (3, .int (jI first)), (0, .ref (q 39)), (1, .int (jI root)), (2, .ref (q 38))] [] (CW E q σ) := by
    intro nF
    induction nF with
    | zero => intro m_ first  hI hn; exact absurd hn (Nat.not_lt_zero _)
    | succ nF ih10 =>
      intro m_ first  hI hn
      obtain ⟨h1, h2, h5, h3, h4⟩ := hI
      refine z_iload (pc' := 12) X dX0_choose_10 rfl 0 rfl ?_
      refine z_aload_n (pc' := 13) X dX0_choose_12 rfl 2 rfl rfl ?_
      refine z_get (pc' := 16) (C := RX0) (ref := "PivotBeats$BestPlay") (T := TX0) (N := 9) (v := .ref (q 21)) X dX0_choose_13 rfl hin0 4 rfl rfl 4 (by decide) (by decide +kernel) rfl rfl ?_
      refine z_iload_n (pc' := 17) X dX0_choose_16 rfl 3 rfl rfl ?_
      refine z_iald (pc' := 18) (f := σ 21) (n := 7) X dX0_choose_17 rfl 21 rfl (by decide) (by omega) ?_
      refine z_icmp_gt (tgt := 50) (pc' := 21) X dX0_choose_18 (by decide) rfl (by omega) (fun h18 => ?_) (fun h18 => ?_)
      · refine z_aload_n (pc' := 51) X dX0_choose_50 rfl 2 rfl rfl ?_
        refine z_get (pc' := 54) (C := RX0) (ref := "PivotBeats$BestPlay") (T := TX0) (N := 9) (v := .ref (q 20)) X dX0_choose_51 rfl hin0 4 rfl rfl 3 (by decide) (by decide +kernel) rfl rfl ?_
        refine z_iload_n (pc' := 55) X dX0_choose_54 rfl 3 rfl rfl ?_
        refine z_iload_n (pc' := 56) X dX0_choose_55 rfl 1 rfl rfl ?_
        refine z_iast (pc' := 57) (f := σ 20) (n := 7) (w' := CW E q (up σ 20 root first)) X dX0_choose_56 rfl 20 rfl (by decide) (by omega) rfl ?_
        refine z_aload_n (pc' := 58) X dX0_choose_57 rfl 2 rfl rfl ?_
        refine z_get (pc' := 61) (C := RX0) (ref := "PivotBeats$BestPlay") (T := TX0) (N := 9) (v := .ref (q 21)) X dX0_choose_58 rfl hin0 4 rfl rfl 4 (by decide) (by decide +kernel) rfl rfl ?_
        refine z_iload_n (pc' := 62) X dX0_choose_61 rfl 3 rfl rfl ?_
        refine z_iload_n (pc' := 63) X dX0_choose_62 rfl 1 rfl rfl ?_
        refine z_iast (pc' := 64) (f := σ 21) (n := 7) (w' := CW E q (up (up σ 20 root first) 21 root first)) X dX0_choose_63 rfl 21 rfl (by decide) (by omega) rfl ?_
        refine z_aload_n (pc' := 65) X dX0_choose_64 rfl 2 rfl rfl ?_
        refine z_aload_n (pc' := 66) X dX0_choose_65 rfl 2 rfl rfl ?_
        refine z_get (pc' := 69) (C := RX0) (ref := "PivotBeats$BestPlay") (T := TX0) (N := 9) (v := .ref (q 22)) X dX0_choose_66 rfl hin0 4 rfl rfl 5 (by decide) (by decide +kernel) rfl rfl ?_
        refine z_iload_n (pc' := 70) X dX0_choose_69 rfl 3 rfl rfl ?_
        refine z_aald (pc' := 71) (b := q (50 + root.toNat)) X dX0_choose_70 rfl 30 rfl (by decide) (by omega) (if_pos (by omega)) ?_
        refine z_iload_n (pc' := 72) X dX0_choose_71 rfl 1 rfl rfl ?_
        refine z_hld (pc' := 73) (sx := root) X dX0_choose_72 rfl (by omega) (by omega) ?_
        refine z_put (pc' := 76) (C := RX0) (ref := "PivotBeats$BestPlay") (T := TX0) (N := 9) (ty := .int) (w' := CW E q (up (up (up σ 20 root first) 21 root first) 18 0 (σ 22 (16 * root + first)))) X dX0_choose_73 rfl hin0 tyX0 tyX0_ok nmX0 4 rfl rfl 1 (by decide) (by decide +kernel) rfl rfl (by decide +kernel) rfl rfl (Nat.le_of_ble_eq_true rfl) rfl ?_
        refine z_aload_n (pc' := 77) X dX0_choose_76 rfl 2 rfl rfl ?_
        refine z_get (pc' := 80) (C := RX0) (ref := "PivotBeats$BestPlay") (T := TX0) (N := 9) (v := .ref (q 17)) X dX0_choose_77 rfl hin0 4 rfl rfl 0 (by decide) (by decide +kernel) rfl rfl ?_
        refine z_iload_n (pc' := 81) X dX0_choose_80 rfl 3 rfl rfl ?_
        refine z_aload_n (pc' := 82) X dX0_choose_81 rfl 4 rfl rfl ?_
        refine z_get (pc' := 85) (C := RX2) (ref := "PivotBeats$Metronome") (T := TX2) (N := 2) (v := .ref (q 15)) X dX0_choose_82 rfl hin2 3 rfl rfl 0 (by decide) (by decide +kernel) rfl rfl ?_
        refine z_iload_n (pc' := 86) X dX0_choose_85 rfl 1 rfl rfl ?_
        refine z_iald (pc' := 87) (f := σ 15) (n := 16) X dX0_choose_86 rfl 18 rfl (by decide) (by omega) ?_
        refine z_iast (pc' := 88) (f := σ 17) (n := 7) (w' := CW E q (up (up (up (up σ 20 root first) 21 root first) 18 0 (σ 22 (16 * root + first))) 17 root (σ 15 first))) X dX0_choose_87 rfl 19 rfl (by decide) (by omega) rfl ?_
        exact z_vret (post := (fun (uu : St) => ∃ f, (σ 20 root ≤ f ∧ f ≤ σ 21 root) ∧ (∀ x, σ 20 root ≤ x → x ≤ σ 21 root → σ 22 (16 * root + f) ≤ σ 22 (16 * root + x)) ∧ (∀ x, σ 20 root ≤ x → x < f → σ 22 (16 * root + f) < σ 22 (16 * root + x)) ∧ uu = up (up (up (up σ 20 root f) 21 root f) 18 0 (σ 22 (16 * root + f))) 17 root (σ 15 f))) X dX0_choose_88 hret (up (up (up (up σ 20 root first) 21 root first) 18 0 (σ 22 (16 * root + first))) 17 root (σ 15 first)) (⟨first, h1, fun x x0 x1 => h3 x x0 (by omega), h4, rfl⟩)
      · have b1 := hb m_ (by omega) (by omega)
        have b2 := hb first (by omega) (by omega)
        refine z_aload_n (pc' := 22) X dX0_choose_21 rfl 2 rfl rfl ?_
        refine z_get (pc' := 25) (C := RX0) (ref := "PivotBeats$BestPlay") (T := TX0) (N := 9) (v := .ref (q 22)) X dX0_choose_22 rfl hin0 4 rfl rfl 5 (by decide) (by decide +kernel) rfl rfl ?_
        refine z_iload_n (pc' := 26) X dX0_choose_25 rfl 3 rfl rfl ?_
        refine z_aald (pc' := 27) (b := q (50 + root.toNat)) X dX0_choose_26 rfl 30 rfl (by decide) (by omega) (if_pos (by omega)) ?_
        refine z_iload (pc' := 29) X dX0_choose_27 rfl 0 rfl ?_
        refine z_hld (pc' := 30) (sx := root) X dX0_choose_29 rfl (by omega) (by omega) ?_
        refine z_aload_n (pc' := 31) X dX0_choose_30 rfl 2 rfl rfl ?_
        refine z_get (pc' := 34) (C := RX0) (ref := "PivotBeats$BestPlay") (T := TX0) (N := 9) (v := .ref (q 22)) X dX0_choose_31 rfl hin0 4 rfl rfl 5 (by decide) (by decide +kernel) rfl rfl ?_
        refine z_iload_n (pc' := 35) X dX0_choose_34 rfl 3 rfl rfl ?_
        refine z_aald (pc' := 36) (b := q (50 + root.toNat)) X dX0_choose_35 rfl 30 rfl (by decide) (by omega) (if_pos (by omega)) ?_
        refine z_iload_n (pc' := 37) X dX0_choose_36 rfl 1 rfl rfl ?_
        refine z_hld (pc' := 38) (sx := root) X dX0_choose_37 rfl (by omega) (by omega) ?_
        refine z_icmp_ge (tgt := 44) (pc' := 41) X dX0_choose_38 (by decide) rfl (by omega) (fun h38 => ?_) (fun h38 => ?_)
        · refine z_iinc (pc' := 47) (lv' := [(4, .int (jI (m_ + 1))), (3, .int (jI first)), (0, .ref (q 39)), (1, .int (jI root)), (2, .ref (q 38))]) X dX0_choose_44 rfl 0 rfl (by decide) rfl ?_
          refine z_goto (tgt := 10) X dX0_choose_47 (by decide) ?_
          exact ih10 (m_ + 1) first  (by first | exact ⟨by omega, by omega, by omega, fun x x0 x1 => chA h3 h38 x x0 x1, fun x x0 x1 => chL h3 h38 x x0 x1⟩ | exact ⟨by omega, by omega, by omega, fun x x0 x1 => chB h3 h38 x x0 x1, h4⟩) (by omega)
        · refine z_iload (pc' := 43) X dX0_choose_41 rfl 0 rfl ?_
          refine z_istore_n (pc' := 44) (lv' := [(3, .int (jI m_)), (4, .int (jI m_)), (0, .ref (q 39)), (1, .int (jI root)), (2, .ref (q 38))]) X dX0_choose_43 rfl rfl (by decide) rfl ?_
          refine z_iinc (pc' := 47) (lv' := [(4, .int (jI (m_ + 1))), (3, .int (jI m_)), (0, .ref (q 39)), (1, .int (jI root)), (2, .ref (q 38))]) X dX0_choose_44 rfl 1 rfl (by decide) rfl ?_
          refine z_goto (tgt := 10) X dX0_choose_47 (by decide) ?_
          exact ih10 (m_ + 1) m_  (by first | exact ⟨by omega, by omega, by omega, fun x x0 x1 => chA h3 h38 x x0 x1, fun x x0 x1 => chL h3 h38 x x0 x1⟩ | exact ⟨by omega, by omega, by omega, fun x x0 x1 => chB h3 h38 x x0 x1, h4⟩) (by omega)
  exact lp10 _ (σ 20 root) (σ 20 root)  (⟨by omega, by omega, by omega, fun x x0 x1 => by omega, fun x x0 x1 => by omega⟩) (Nat.lt_succ_self _)
set_option maxHeartbeats 4000000 in
set_option maxRecDepth 100000 in
theorem kX0_find (l : Launch) (D : va_G) (E : Nat → Nat) (q : Nat → Nat) (σ : St) (hwf : WfC σ) (hji : JI σ) (hbi : BI σ) : CtV l D E yX0_find wsX0_find ({ frames := 4, cells := 0, slots := 0, locals := 118 } : Room) [.ref (q 39), .ref (q 36), .ref (q 37), .ref (q 38)] (CW E q σ) (CW E q) (fun (uu : St) => (∀ F, (F < 17 ∨ 25 < F) → uu F = σ F) ∧ uu 19 0 = 1 ∧ BI uu) := by
  refine mk_V (cc := cX0_find) (maxL := 5) (ret := none) (by decide) rfl (Nat.le_of_ble_eq_true rfl) ?_
  intro p e s m args below meth c A X hret
  have hin0 : ∀ x ∈ u_ws RX0 TX0 9, x ∈ wsX0_find := fun _ h => List.mem_cons_of_mem _ (List.mem_append_left _ (List.mem_append_left _ (List.mem_append_left _ (List.mem_append_right _ h))))
  have hin3 : ∀ x ∈ u_ws RX3 TX3 9, x ∈ wsX0_find := fun _ h => List.mem_cons_of_mem _ (List.mem_append_left _ (List.mem_append_left _ (List.mem_append_right _ h)))
  have hin2 : ∀ x ∈ u_ws RX2 TX2 2, x ∈ wsX0_find := fun _ h => List.mem_cons_of_mem _ (List.mem_append_left _ (List.mem_append_right _ h))
  have hin1 : ∀ x ∈ u_ws RX1 TX1 5, x ∈ wsX0_find := fun _ h => List.mem_cons_of_mem _ (List.mem_append_right _ h)
  refine z_lv (lv' := [(0, .ref (q 39)), (1, .ref (q 36)), (2, .ref (q 37)), (3, .ref (q 38))]) [0, 1, 2, 3] rfl ?_
  obtain ⟨n1, n0, n4, n16⟩ := hwf.n
  have hbk := hbi.1
  refine z_aload_n (pc' := 1) X dX0_find_0 rfl 0 rfl rfl ?_
  refine z_get (pc' := 4) (C := RX0) (ref := "PivotBeats$BestPlay") (T := TX0) (N := 9) (v := .int (jI (σ 19 0))) X dX0_find_1 rfl hin0 4 rfl rfl 2 (by decide) (by decide +kernel) rfl rfl ?_
  refine z_if_eq (tgt := 8) (pc' := 7) X dX0_find_4 (by decide) rfl (by (first | omega | (clear g4; omega) | (clear hbi; omega))) (fun h4 => ?_) (fun h4 => ?_)
  · refine z_aload_n (pc' := 9) X dX0_find_8 rfl 0 rfl rfl ?_
    refine z_iconst (pc' := 10) X dX0_find_9 rfl ?_
    refine z_put (pc' := 13) (C := RX0) (ref := "PivotBeats$BestPlay") (T := TX0) (N := 9) (ty := .boolean) (w' := CW E q (up σ 19 0 1)) X dX0_find_10 rfl hin0 tyX0 tyX0_ok nmX0 4 rfl rfl 2 (by decide) (by decide +kernel) rfl rfl (by decide +kernel) rfl rfl (Nat.le_of_ble_eq_true rfl) rfl ?_
    refine z_aload_n (pc' := 14) X dX0_find_13 rfl 0 rfl rfl ?_
    refine z_bipush (pc' := 16) X dX0_find_14 rfl rfl ?_
    refine z_put (pc' := 19) (C := RX0) (ref := "PivotBeats$BestPlay") (T := TX0) (N := 9) (ty := .int) (w' := CW E q (up (up σ 19 0 1) 18 0 (-9))) X dX0_find_16 rfl hin0 tyX0 tyX0_ok nmX0 4 rfl rfl 1 (by decide) (by decide +kernel) rfl rfl (by decide +kernel) rfl rfl (Nat.le_of_ble_eq_true rfl) rfl ?_
    refine z_iconst (pc' := 20) X dX0_find_19 rfl ?_
    refine z_istore (pc' := 22) (lv' := [(4, .int (jI 0)), (0, .ref (q 39)), (1, .ref (q 36)), (2, .ref (q 37)), (3, .ref (q 38))]) X dX0_find_20 rfl (by decide) rfl ?_
    have lp22 : ∀ (nF : Nat) (s_ : Int) (u1 : St) , ((0 ≤ s_ ∧ s_ ≤ 7) ∧ (∀ F, (F < 17 ∨ 25 < F) → u1 F = σ F) ∧ u1 19 0 = 1 ∧ u1 18 0 = -9 ∧ ∀ t, 0 ≤ t → t < s_ → u1 17 t = -9) → ((7 - s_).toNat : Nat) < nF → J p l e (headSpec wsX0_find ({ frames := 4, cells := 0, slots := 0, locals := 118 } : Room)).room s m args below meth c D A 5 (MQ below (va_Qv (fun (uu : St) => (∀ F, (F < 17 ∨ 25 < F) → uu F = σ F) ∧ uu 19 0 = 1 ∧ BI uu) (Bw D (CW E q) A) A) args s 0 0 A) 22 [(4, .int (jI s_)), (0, .ref (q 39)), (1, .ref (q 36)), (2, .ref (q 37)), (3, .ref (q 38))] [] (CW E q u1) := by
      intro nF
      induction nF with
      | zero => intro s_ u1  hI hn; exact absurd hn (Nat.not_lt_zero _)
      | succ nF ih22 =>
        intro s_ u1  hI hn
        obtain ⟨h1, h2, h3, h4, h5⟩ := hI
        have u1w : WfC u1 := eqC.wf (σ := σ) (fun F hF => h2 F (by omega)) hwf
        have e1 : u1 1 0 = σ 1 0 := by rw [h2 1 (by decide)]
        have e16 : u1 16 0 = σ 16 0 := by rw [h2 16 (by decide)]
        refine z_iload (pc' := 24) X dX0_find_22 rfl 0 rfl ?_
        refine z_bipush (pc' := 26) X dX0_find_24 rfl rfl ?_
        refine z_icmp_ge (tgt := 44) (pc' := 29) X dX0_find_26 (by decide) rfl (by (first | omega | (clear g4; omega) | (clear hbi; omega))) (fun h26 => ?_) (fun h26 => ?_)
        · refine z_aload_n (pc' := 45) X dX0_find_44 rfl 2 rfl rfl ?_
          refine z_get (pc' := 48) (C := RX3) (ref := "PivotBeats$Piece") (T := TX3) (N := 9) (v := .int (jI (u1 1 0))) X dX0_find_45 rfl hin3 1 rfl rfl 0 (by decide) (by decide +kernel) rfl rfl ?_
          refine z_if_eq (tgt := 58) (pc' := 51) X dX0_find_48 (by decide) rfl (by (first | omega | (clear g4; omega) | (clear hbi; omega))) (fun h48 => ?_) (fun h48 => ?_)
          · exact z_vret (post := (fun (uu : St) => (∀ F, (F < 17 ∨ 25 < F) → uu F = σ F) ∧ uu 19 0 = 1 ∧ BI uu)) X dX0_find_58 hret u1 (⟨h2, h3, fi0 h2 h3 h4 (by rw [show s_ = 7 by omega] at h5; exact h5) (by omega)⟩)
          · refine z_aload_n (pc' := 52) X dX0_find_51 rfl 4 rfl rfl ?_
            refine z_get (pc' := 55) (C := RX2) (ref := "PivotBeats$Metronome") (T := TX2) (N := 2) (v := .int (jI (u1 16 0))) X dX0_find_52 rfl hin2 3 rfl rfl 1 (by decide) (by decide +kernel) rfl rfl ?_
            refine z_if_ne (tgt := 59) (pc' := 58) X dX0_find_55 (by decide) rfl (by (first | omega | (clear g4; omega) | (clear hbi; omega))) (fun h55 => ?_) (fun h55 => ?_)
            · have hfo : ∀ t, 0 ≤ t → t < σ 1 0 → (pinF (σ 15) (σ 16 0) (σ 3)) t = -9 ∨ (0 ≤ (pinF (σ 15) (σ 16 0) (σ 3)) t ∧ (pinF (σ 15) (σ 16 0) (σ 3)) t < σ 16 0) := fun t _ _ => pinF_rng _ n16.1 _ _
              obtain ⟨xh, hmn⟩ := MinH_ex (nS := σ 1 0) (nM := σ 16 0) (fo := (pinF (σ 15) (σ 16 0) (σ 3))) (H := (HC (σ 4 0).toNat (σ 5) (σ 6) (σ 7) (σ 8) (σ 9) (σ 15))) (fun g hg => HC_nn hwf hg) (fiG hfo (by omega))
              refine z_aload_n (pc' := 60) X dX0_find_59 rfl 1 rfl rfl ?_
              refine z_aload_n (pc' := 61) X dX0_find_60 rfl 2 rfl rfl ?_
              refine z_aload_n (pc' := 62) X dX0_find_61 rfl 4 rfl rfl ?_
              refine z_callVV (pc' := 65) (S := St) (As := [.ref (q 36), .ref (q 38)]) (rest := []) X dX0_find_62 rfl (kX0_allowMarks l D E q u1   (u1w)) (cwV 2 X.1.2.2.2.2 gX0_find_X0_allowMarks rfl rfl rfl (by decide +kernel) ⟨Nat.le_of_ble_eq_true rfl, Nat.le_of_ble_eq_true rfl⟩) 4 rfl rfl rfl rfl (Nat.le_of_ble_eq_true rfl) (fun u62 hp62 => ?_)
              obtain ⟨hn62, hf62⟩ := hp62
              refine z_iconst (pc' := 66) X dX0_find_65 rfl ?_
              refine z_istore (pc' := 68) (lv' := [(4, .int (jI 0)), (0, .ref (q 39)), (1, .ref (q 36)), (2, .ref (q 37)), (3, .ref (q 38))]) X dX0_find_66 rfl (by decide) rfl ?_
              have lp68 : ∀ (nF : Nat) (s_ : Int) (u2 : St) , ((0 ≤ s_ ∧ s_ ≤ σ 1 0) ∧ (∀ F, (F < 17 ∨ 25 < F) → u2 F = σ F) ∧ u2 19 0 = 1 ∧ ∃ fo, FPs (σ 1 0) (σ 16 0) (pinF (σ 15) (σ 16 0) (σ 3)) (HC (σ 4 0).toNat (σ 5) (σ 6) (σ 7) (σ 8) (σ 9) (σ 15)) (fun t => jS (σ 5) (σ 6) (σ 7) (σ 8) (σ 4 0).toNat 0 t = jS (σ 5) (σ 6) (σ 7) (σ 8) (σ 4 0).toNat 0 0) xh s_ fo ∧ FLr (σ 1 0) (σ 16 0) fo (u2 20) (u2 21) ∧ (∀ t, 0 ≤ t → t < 7 → ((t < s_ ∧ jS (σ 5) (σ 6) (σ 7) (σ 8) (σ 4 0).toNat 0 t = jS (σ 5) (σ 6) (σ 7) (σ 8) (σ 4 0).toNat 0 0) → u2 17 t = σ 15 (fo t)) ∧ (¬ (t < s_ ∧ jS (σ 5) (σ 6) (σ 7) (σ 8) (σ 4 0).toNat 0 t = jS (σ 5) (σ 6) (σ 7) (σ 8) (σ 4 0).toNat 0 0) → u2 17 t = -9)) ∧ (1 ≤ s_ → u2 18 0 = xh)) → ((7 - s_).toNat : Nat) < nF → J p l e (headSpec wsX0_find ({ frames := 4, cells := 0, slots := 0, locals := 118 } : Room)).room s m args below meth c D A 5 (MQ below (va_Qv (fun (uu : St) => (∀ F, (F < 17 ∨ 25 < F) → uu F = σ F) ∧ uu 19 0 = 1 ∧ BI uu) (Bw D (CW E q) A) A) args s 0 0 A) 68 [(4, .int (jI s_)), (0, .ref (q 39)), (1, .ref (q 36)), (2, .ref (q 37)), (3, .ref (q 38))] [] (CW E q u2) := by
                intro nF
                induction nF with
                | zero => intro s_ u2  hI hn; exact absurd hn (Nat.not_lt_zero _)
                | succ nF ih68 =>
                  intro s_ u2  hI hn
                  obtain ⟨g1, g2, g3, g4⟩ := hI
                  have u2w : WfC u2 := eqC.wf (σ := σ) (fun F hF => g2 F (by omega)) hwf
                  have f1 : u2 1 0 = σ 1 0 := by rw [g2 1 (by decide)]
                  refine z_iload (pc' := 70) X dX0_find_68 rfl 0 rfl ?_
                  refine z_aload_n (pc' := 71) X dX0_find_70 rfl 2 rfl rfl ?_
                  refine z_get (pc' := 74) (C := RX3) (ref := "PivotBeats$Piece") (T := TX3) (N := 9) (v := .int (jI (u2 1 0))) X dX0_find_71 rfl hin3 1 rfl rfl 0 (by decide) (by decide +kernel) rfl rfl ?_
                  refine z_icmp_ge (tgt := 113) (pc' := 77) X dX0_find_74 (by decide) rfl (by (first | omega | (clear g4; omega) | (clear hbi; omega))) (fun h74 => ?_) (fun h74 => ?_)
                  · exact z_vret (post := (fun (uu : St) => (∀ F, (F < 17 ∨ 25 < F) → uu F = σ F) ∧ uu 19 0 = 1 ∧ BI uu)) X dX0_find_113 hret u2 (⟨g2, g3, fiE hwf g2 g3 (by omega) (by omega) (by rw [show s_ = σ 1 0 by clear g4; omega] at g4; exact g4)⟩)
                  · have js := hji.g hwf (s := s_) (by clear g4; omega)
                    have e10 : u2 10 s_ = σ 10 s_ := by rw [g2 10 (by decide)]
                    have pl : σ 10 s_ = 0 ↔ jS (σ 5) (σ 6) (σ 7) (σ 8) (σ 4 0).toNat 0 s_ = jS (σ 5) (σ 6) (σ 7) (σ 8) (σ 4 0).toNat 0 0 := by rw [js.1, jS_00 hwf.tok]
                    refine z_aload_n (pc' := 78) X dX0_find_77 rfl 3 rfl rfl ?_
                    refine z_iload (pc' := 80) X dX0_find_78 rfl 0 rfl ?_
                    refine z_callVI (pc' := 83) (S := St) (As := [.int (jI s_)]) (rest := []) X dX0_find_80 rfl (kX1_isPlayed l D E q u2 s_  (by omega)) (cwV 1 X.1.2.2.2.2 gX0_find_X1_isPlayed rfl rfl rfl (by decide +kernel) ⟨Nat.le_of_ble_eq_true rfl, Nat.le_of_ble_eq_true rfl⟩) 2 rfl rfl rfl rfl (Nat.le_of_ble_eq_true rfl) (fun r80 u80 hp80 => ?_)
                    obtain ⟨rfl, hp80⟩ := hp80
                    rcases hp80 with ⟨rfl, hp80⟩ | ⟨rfl, hp80⟩
                    · refine z_if_eq (tgt := 107) (pc' := 86) X dX0_find_83 (by decide) rfl (by (first | omega | (clear g4; omega) | (clear hbi; omega))) (fun h => absurd h (by decide)) (fun _ => ?_)
                      have pls : jS (σ 5) (σ 6) (σ 7) (σ 8) (σ 4 0).toNat 0 s_ = jS (σ 5) (σ 6) (σ 7) (σ 8) (σ 4 0).toNat 0 0 := pl.mp (by rw [← e10]; exact hp80)
                      refine z_aload_n (pc' := 87) X dX0_find_86 rfl 1 rfl rfl ?_
                      refine z_iload (pc' := 89) X dX0_find_87 rfl 0 rfl ?_
                      refine z_aload_n (pc' := 90) X dX0_find_89 rfl 2 rfl rfl ?_
                      refine z_aload_n (pc' := 91) X dX0_find_90 rfl 3 rfl rfl ?_
                      refine z_callVV (pc' := 94) (S := St) (As := [.int (jI s_), .ref (q 36), .ref (q 37)]) (rest := []) X dX0_find_91 rfl (kX0_orderFrom l D E q u2 s_  (u2w) (JI.same (fun F hF => g2 F (by omega)) hji) (by omega)) (cwV 3 X.1.2.2.2.2 gX0_find_X0_orderFrom rfl rfl rfl (by decide +kernel) ⟨Nat.le_of_ble_eq_true rfl, Nat.le_of_ble_eq_true rfl⟩) 4 rfl rfl rfl rfl (Nat.le_of_ble_eq_true rfl) (fun u91 hp91 => ?_)
                      obtain ⟨hn91, ht91⟩ := hp91
                      have w91 : WfC u91 := eqC.wf (σ := u2) (fun F hF => hn91 F (by omega) (by omega) (by omega)) u2w
                      refine z_aload_n (pc' := 95) X dX0_find_94 rfl 1 rfl rfl ?_
                      refine z_aload_n (pc' := 96) X dX0_find_95 rfl 2 rfl rfl ?_
                      refine z_aload_n (pc' := 97) X dX0_find_96 rfl 4 rfl rfl ?_
                      refine z_callVV (pc' := 100) (S := St) (As := [.ref (q 36), .ref (q 38)]) (rest := []) X dX0_find_97 rfl (kX0_gather l D E q u91  s_ (w91) (by rw [hn91 1 (by decide) (by decide) (by decide), f1]; omega) (TFx hn91 ht91) (fiA g2 hn91 g4 (by omega))) (cwV 2 X.1.2.2.2.2 gX0_find_X0_gather rfl rfl rfl (by decide +kernel) ⟨Nat.le_of_ble_eq_true rfl, Nat.le_of_ble_eq_true rfl⟩) 4 rfl rfl rfl rfl (Nat.le_of_ble_eq_true rfl) (fun u97 hp97 => ?_)
                      obtain ⟨hn97, hd97, hb97⟩ := hp97
                      have w97 : WfC u97 := eqC.wf (σ := u91) (fun F hF => hn97 F (by omega)) w91
                      refine z_aload_n (pc' := 101) X dX0_find_100 rfl 1 rfl rfl ?_
                      refine z_iload (pc' := 103) X dX0_find_101 rfl 0 rfl ?_
                      refine z_aload_n (pc' := 104) X dX0_find_103 rfl 4 rfl rfl ?_
                      refine z_callVV (pc' := 107) (S := St) (As := [.int (jI s_), .ref (q 38)]) (rest := []) X dX0_find_104 rfl (kX0_choose l D E q u97 s_  (w97) (by omega) (by have := fiA g2 hn91 g4 (by omega) s_ (by clear g4; omega) (by rw [hn91 1 (by decide) (by decide) (by decide), f1]; clear g4; omega); rw [hn97 20 (by decide), hn97 21 (by decide), hn97 16 (by decide)]; exact this) (fiC g2 hn91 hb97 (by omega) (by omega))) (cwV 2 X.1.2.2.2.2 gX0_find_X0_choose rfl rfl rfl (by decide +kernel) ⟨Nat.le_of_ble_eq_true rfl, Nat.le_of_ble_eq_true rfl⟩) 4 rfl rfl rfl rfl (Nat.le_of_ble_eq_true rfl) (fun u104 hp104 => ?_)
                      obtain ⟨f104, hf104, hm104, hl104, hu104⟩ := hp104
                      try have pls : ¬ jS (σ 5) (σ 6) (σ 7) (σ 8) (σ 4 0).toNat 0 s_ = jS (σ 5) (σ 6) (σ 7) (σ 8) (σ 4 0).toNat 0 0 := fun z => hp80 (by rw [e10]; exact pl.mpr z)
                      refine z_iinc (pc' := 110) (lv' := [(4, .int (jI (s_ + 1))), (0, .ref (q 39)), (1, .ref (q 36)), (2, .ref (q 37)), (3, .ref (q 38))]) X dX0_find_107 rfl 0 rfl (by decide) rfl ?_
                      refine z_goto (tgt := 68) X dX0_find_110 (by decide) ?_
                      exact ih68 (s_ + 1) u104  (by first | exact ⟨by clear g4; omega, FRk g2 hn91 hn97 hu104, K19 g3 hn91 hn97 hu104, fiS hwf (by clear g4; omega) pls g2 g4 ht91 hn91 hn97 hd97 hf104 hm104 hl104 hu104⟩ | exact ⟨by clear g4; omega, g2, g3, fiK (by clear g4; omega) (by clear g4; omega) pls g4⟩) (by clear g4; omega)
                    · refine z_if_eq (tgt := 107) (pc' := 86) X dX0_find_83 (by decide) rfl (by (first | omega | (clear g4; omega) | (clear hbi; omega))) (fun _ => ?_) (fun h => absurd h (by decide))
                      try have pls : ¬ jS (σ 5) (σ 6) (σ 7) (σ 8) (σ 4 0).toNat 0 s_ = jS (σ 5) (σ 6) (σ 7) (σ 8) (σ 4 0).toNat 0 0 := fun z => hp80 (by rw [e10]; exact pl.mpr z)
                      refine z_iinc (pc' := 110) (lv' := [(4, .int (jI (s_ + 1))), (0, .ref (q 39)), (1, .ref (q 36)), (2, .ref (q 37)), (3, .ref (q 38))]) X dX0_find_107 rfl 0 rfl (by decide) rfl ?_
                      refine z_goto (tgt := 68) X dX0_find_110 (by decide) ?_
                      exact ih68 (s_ + 1) u2  (by first | exact ⟨by clear g4; omega, FRk g2 hn91 hn97 hu104, K19 g3 hn91 hn97 hu104, fiS hwf (by clear g4; omega) pls g2 g4 ht91 hn91 hn97 hd97 hf104 hm104 hl104 hu104⟩ | exact ⟨by clear g4; omega, g2, g3, fiK (by clear g4; omega) (by clear g4; omega) pls g4⟩) (by clear g4; omega)
              exact lp68 _ 0 u62  (⟨by omega, fun F hF => by rw [hn62 F (by omega) (by omega), h2 F hF], by rw [hn62 19 (by decide) (by decide)]; exact h3, fiI hfo hmn h2 hn62 hf62 (by rw [show s_ = 7 by omega] at h5; exact h5)⟩) (Nat.lt_succ_self _)
            · exact z_vret (post := (fun (uu : St) => (∀ F, (F < 17 ∨ 25 < F) → uu F = σ F) ∧ uu 19 0 = 1 ∧ BI uu)) X dX0_find_58 hret u1 (⟨h2, h3, fi0 h2 h3 h4 (by rw [show s_ = 7 by omega] at h5; exact h5) (by omega)⟩)
        · refine z_aload_n (pc' := 30) X dX0_find_29 rfl 1 rfl rfl ?_
          refine z_get (pc' := 33) (C := RX0) (ref := "PivotBeats$BestPlay") (T := TX0) (N := 9) (v := .ref (q 17)) X dX0_find_30 rfl hin0 4 rfl rfl 0 (by decide) (by decide +kernel) rfl rfl ?_
          refine z_iload (pc' := 35) X dX0_find_33 rfl 0 rfl ?_
          refine z_bipush (pc' := 37) X dX0_find_35 rfl rfl ?_
          refine z_iast (pc' := 38) (f := u1 17) (n := 7) (w' := CW E q (up u1 17 s_ (-9))) X dX0_find_37 rfl 19 rfl (by decide) (by (first | omega | (clear g4; omega) | (clear hbi; omega))) rfl ?_
          refine z_iinc (pc' := 41) (lv' := [(4, .int (jI (s_ + 1))), (0, .ref (q 39)), (1, .ref (q 36)), (2, .ref (q 37)), (3, .ref (q 38))]) X dX0_find_38 rfl 0 rfl (by decide) rfl ?_
          refine z_goto (tgt := 22) X dX0_find_41 (by decide) ?_
          exact ih22 (s_ + 1) (up u1 17 s_ (-9))  (⟨by omega, fun F hF => by rw [← h2 F hF]; funext i; exact up_f _ _ _ _ (by omega), h3, h4, fi17 h5⟩) (by omega)
    exact lp22 _ 0 (up (up σ 19 0 1) 18 0 (-9))  (⟨by omega, fun F hF => by funext i; rw [up_f _ _ _ _ (by omega), up_f _ _ _ _ (by omega)], rfl, rfl, fun t t0 t1 => by omega⟩) (Nat.lt_succ_self _)
  · exact z_vret (post := (fun (uu : St) => (∀ F, (F < 17 ∨ 25 < F) → uu F = σ F) ∧ uu 19 0 = 1 ∧ BI uu)) X dX0_find_7 hret σ (⟨fun _ _ => rfl, by omega, hbi⟩)
set_option maxHeartbeats 4000000 in
set_option maxRecDepth 100000 in
theorem kX5_harm (l : Launch) (D : va_G) (E : Nat → Nat) (q : Nat → Nat) (σ : St) (hwf : WfC σ) (hji : JI σ) (hbi : BI σ) : CtI l D E yX5_harm wsX5_harm ({ frames := 5, cells := 0, slots := 0, locals := 142 } : Room) [.ref (q 0)] (CW E q σ) (CW E q) (fun (rv : Int) (uu : St) => (fHarm (σ 1 0) (σ 3) (σ 4 0) (σ 5) (σ 6) (σ 7) (σ 8) (σ 9) (σ 16 0) (σ 15) rv ∧ (∀ F, (F < 17 ∨ 25 < F) → uu F = σ F) ∧ BI uu)) := by
  refine mk_I (cc := cX5_harm) (maxL := 1) (ret := some .int) (by decide) rfl (Nat.le_of_ble_eq_true rfl) ?_
  intro p e s m args below meth c A X hret
  have hin5 : ∀ x ∈ u_ws RX5 TX5 6, x ∈ wsX5_harm := fun _ h => List.mem_cons_of_mem _ (List.mem_append_left _ (List.mem_append_left _ (List.mem_append_left _ (List.mem_append_left _ (List.mem_append_right _ h)))))
  have hin0 : ∀ x ∈ u_ws RX0 TX0 9, x ∈ wsX5_harm := fun _ h => List.mem_cons_of_mem _ (List.mem_append_left _ (List.mem_append_left _ (List.mem_append_left _ (List.mem_append_right _ h))))
  have hin3 : ∀ x ∈ u_ws RX3 TX3 9, x ∈ wsX5_harm := fun _ h => List.mem_cons_of_mem _ (List.mem_append_left _ (List.mem_append_left _ (List.mem_append_right _ h)))
  have hin2 : ∀ x ∈ u_ws RX2 TX2 2, x ∈ wsX5_harm := fun _ h => List.mem_cons_of_mem _ (List.mem_append_left _ (List.mem_append_right _ h))
  have hin1 : ∀ x ∈ u_ws RX1 TX1 5, x ∈ wsX5_harm := fun _ h => List.mem_cons_of_mem _ (List.mem_append_right _ h)
  refine z_lv (lv' := [(0, .ref (q 0))]) [0] rfl ?_
  obtain ⟨n1, n0, n4, n16⟩ := hwf.n
  refine z_aload_n (pc' := 1) X dX5_harm_0 rfl 0 rfl rfl ?_
  refine z_get (pc' := 4) (C := RX5) (ref := "PivotBeats") (T := TX5) (N := 6) (v := .ref (q 39)) X dX5_harm_1 rfl hin5 0 rfl rfl 3 (by decide) (by decide +kernel) rfl rfl ?_
  refine z_aload_n (pc' := 5) X dX5_harm_4 rfl 0 rfl rfl ?_
  refine z_get (pc' := 8) (C := RX5) (ref := "PivotBeats") (T := TX5) (N := 6) (v := .ref (q 36)) X dX5_harm_5 rfl hin5 0 rfl rfl 0 (by decide) (by decide +kernel) rfl rfl ?_
  refine z_aload_n (pc' := 9) X dX5_harm_8 rfl 0 rfl rfl ?_
  refine z_get (pc' := 12) (C := RX5) (ref := "PivotBeats") (T := TX5) (N := 6) (v := .ref (q 37)) X dX5_harm_9 rfl hin5 0 rfl rfl 1 (by decide) (by decide +kernel) rfl rfl ?_
  refine z_aload_n (pc' := 13) X dX5_harm_12 rfl 0 rfl rfl ?_
  refine z_get (pc' := 16) (C := RX5) (ref := "PivotBeats") (T := TX5) (N := 6) (v := .ref (q 38)) X dX5_harm_13 rfl hin5 0 rfl rfl 2 (by decide) (by decide +kernel) rfl rfl ?_
  refine z_callVV (pc' := 19) (S := St) (As := [.ref (q 36), .ref (q 37), .ref (q 38)]) (rest := []) X dX5_harm_16 rfl (kX0_find l D E q σ   (hwf) (hji) (hbi)) (cwV 3 X.1.2.2.2.2 gX5_harm_X0_find rfl rfl rfl (by decide +kernel) ⟨Nat.le_of_ble_eq_true rfl, Nat.le_of_ble_eq_true rfl⟩) 4 rfl rfl rfl rfl (Nat.le_of_ble_eq_true rfl) (fun u16 hp16 => ?_)
  obtain ⟨hn16, hk16, hb16⟩ := hp16
  refine z_aload_n (pc' := 20) X dX5_harm_19 rfl 0 rfl rfl ?_
  refine z_get (pc' := 23) (C := RX5) (ref := "PivotBeats") (T := TX5) (N := 6) (v := .ref (q 39)) X dX5_harm_20 rfl hin5 0 rfl rfl 3 (by decide) (by decide +kernel) rfl rfl ?_
  refine z_get (pc' := 26) (C := RX0) (ref := "PivotBeats$BestPlay") (T := TX0) (N := 9) (v := .int (jI (u16 18 0))) X dX5_harm_23 rfl hin0 4 rfl rfl 1 (by decide) (by decide +kernel) rfl rfl ?_
  exact z_iret (post := (fun (rv : Int) (uu : St) => (fHarm (σ 1 0) (σ 3) (σ 4 0) (σ 5) (σ 6) (σ 7) (σ 8) (σ 9) (σ 16 0) (σ 15) rv ∧ (∀ F, (F < 17 ∨ 25 < F) → uu F = σ F) ∧ BI uu))) X dX5_harm_26 hret u16 (⟨haC hn16 hk16 hb16, hn16, hb16⟩)
set_option maxHeartbeats 4000000 in
set_option maxRecDepth 100000 in
theorem kX5_play (l : Launch) (D : va_G) (E : Nat → Nat) (q : Nat → Nat) (σ : St) (s_ : Int) (hwf : WfC σ) (hji : JI σ) (hbi : BI σ) (hr : (-2147483648 ≤ s_ ∧ s_ < 2147483648)) : CtI l D E yX5_play wsX5_play ({ frames := 5, cells := 0, slots := 0, locals := 142 } : Room) [.ref (q 0), .int (jI s_)] (CW E q σ) (CW E q) (fun (rv : Int) (uu : St) => (fPlay (σ 1 0) (σ 3) (σ 4 0) (σ 5) (σ 6) (σ 7) (σ 8) (σ 9) (σ 16 0) (σ 15) s_ rv ∧ (∀ F, (F < 17 ∨ 25 < F) → uu F = σ F) ∧ BI uu)) := by
  refine mk_I (cc := cX5_play) (maxL := 2) (ret := some .int) (by decide) rfl (Nat.le_of_ble_eq_true rfl) ?_
  intro p e s m args below meth c A X hret
  have hin5 : ∀ x ∈ u_ws RX5 TX5 6, x ∈ wsX5_play := fun _ h => List.mem_cons_of_mem _ (List.mem_append_left _ (List.mem_append_left _ (List.mem_append_left _ (List.mem_append_left _ (List.mem_append_right _ h)))))
  have hin0 : ∀ x ∈ u_ws RX0 TX0 9, x ∈ wsX5_play := fun _ h => List.mem_cons_of_mem _ (List.mem_append_left _ (List.mem_append_left _ (List.mem_append_left _ (List.mem_append_right _ h))))
  have hin3 : ∀ x ∈ u_ws RX3 TX3 9, x ∈ wsX5_play := fun _ h => List.mem_cons_of_mem _ (List.mem_append_left _ (List.mem_append_left _ (List.mem_append_right _ h)))
  have hin2 : ∀ x ∈ u_ws RX2 TX2 2, x ∈ wsX5_play := fun _ h => List.mem_cons_of_mem _ (List.mem_append_left _ (List.mem_append_right _ h))
  have hin1 : ∀ x ∈ u_ws RX1 TX1 5, x ∈ wsX5_play := fun _ h => List.mem_cons_of_mem _ (List.mem_append_right _ h)
  refine z_lv (lv' := [(0, .ref (q 0)), (1, .int (jI s_))]) [0, 1] rfl ?_
  obtain ⟨n1, n0, n4, n16⟩ := hwf.n
  refine z_aload_n (pc' := 1) X dX5_play_0 rfl 0 rfl rfl ?_
  refine z_iload_n (pc' := 2) X dX5_play_1 rfl 1 rfl rfl ?_
  refine z_callVI (pc' := 5) (S := St) (As := [.int (jI s_)]) (rest := []) X dX5_play_2 rfl (kX5_isSection l D E q σ s_  (hwf) (by omega)) (cwV 1 X.1.2.2.2.2 gX5_play_X5_isSection rfl rfl rfl (by decide +kernel) ⟨Nat.le_of_ble_eq_true rfl, Nat.le_of_ble_eq_true rfl⟩) 0 rfl rfl rfl rfl (Nat.le_of_ble_eq_true rfl) (fun r2 u2 hp2 => ?_)
  obtain ⟨rfl, hp2⟩ := hp2
  rcases hp2 with ⟨rfl, hp2⟩ | ⟨rfl, hp2⟩
  · refine z_if_ne (tgt := 10) (pc' := 8) X dX5_play_5 (by decide) rfl (by omega) (fun _ => ?_) (fun h => absurd h (by decide))
    refine z_aload_n (pc' := 11) X dX5_play_10 rfl 0 rfl rfl ?_
    refine z_get (pc' := 14) (C := RX5) (ref := "PivotBeats") (T := TX5) (N := 6) (v := .ref (q 39)) X dX5_play_11 rfl hin5 0 rfl rfl 3 (by decide) (by decide +kernel) rfl rfl ?_
    refine z_aload_n (pc' := 15) X dX5_play_14 rfl 0 rfl rfl ?_
    refine z_get (pc' := 18) (C := RX5) (ref := "PivotBeats") (T := TX5) (N := 6) (v := .ref (q 36)) X dX5_play_15 rfl hin5 0 rfl rfl 0 (by decide) (by decide +kernel) rfl rfl ?_
    refine z_aload_n (pc' := 19) X dX5_play_18 rfl 0 rfl rfl ?_
    refine z_get (pc' := 22) (C := RX5) (ref := "PivotBeats") (T := TX5) (N := 6) (v := .ref (q 37)) X dX5_play_19 rfl hin5 0 rfl rfl 1 (by decide) (by decide +kernel) rfl rfl ?_
    refine z_aload_n (pc' := 23) X dX5_play_22 rfl 0 rfl rfl ?_
    refine z_get (pc' := 26) (C := RX5) (ref := "PivotBeats") (T := TX5) (N := 6) (v := .ref (q 38)) X dX5_play_23 rfl hin5 0 rfl rfl 2 (by decide) (by decide +kernel) rfl rfl ?_
    refine z_callVV (pc' := 29) (S := St) (As := [.ref (q 36), .ref (q 37), .ref (q 38)]) (rest := []) X dX5_play_26 rfl (kX0_find l D E q σ   (hwf) (hji) (hbi)) (cwV 3 X.1.2.2.2.2 gX5_play_X0_find rfl rfl rfl (by decide +kernel) ⟨Nat.le_of_ble_eq_true rfl, Nat.le_of_ble_eq_true rfl⟩) 4 rfl rfl rfl rfl (Nat.le_of_ble_eq_true rfl) (fun u26 hp26 => ?_)
    obtain ⟨hn26, hk26, hb26⟩ := hp26
    refine z_aload_n (pc' := 30) X dX5_play_29 rfl 0 rfl rfl ?_
    refine z_get (pc' := 33) (C := RX5) (ref := "PivotBeats") (T := TX5) (N := 6) (v := .ref (q 39)) X dX5_play_30 rfl hin5 0 rfl rfl 3 (by decide) (by decide +kernel) rfl rfl ?_
    refine z_get (pc' := 36) (C := RX0) (ref := "PivotBeats$BestPlay") (T := TX0) (N := 9) (v := .ref (q 17)) X dX5_play_33 rfl hin0 4 rfl rfl 0 (by decide) (by decide +kernel) rfl rfl ?_
    refine z_iload_n (pc' := 37) X dX5_play_36 rfl 1 rfl rfl ?_
    refine z_iald (pc' := 38) (f := u26 17) (n := 7) X dX5_play_37 rfl 19 rfl (by decide) (by omega) ?_
    exact z_iret (post := (fun (rv : Int) (uu : St) => (fPlay (σ 1 0) (σ 3) (σ 4 0) (σ 5) (σ 6) (σ 7) (σ 8) (σ 9) (σ 16 0) (σ 15) s_ rv ∧ (∀ F, (F < 17 ∨ 25 < F) → uu F = σ F) ∧ BI uu))) X dX5_play_38 hret u26 (⟨plC n1 hn26 hk26 hb26 hp2, hn26, hb26⟩)
  · refine z_if_ne (tgt := 10) (pc' := 8) X dX5_play_5 (by decide) rfl (by omega) (fun h => absurd h (by decide)) (fun _ => ?_)
    refine z_iconst (pc' := 9) X dX5_play_8 rfl ?_
    exact z_iret (post := (fun (rv : Int) (uu : St) => (fPlay (σ 1 0) (σ 3) (σ 4 0) (σ 5) (σ 6) (σ 7) (σ 8) (σ 9) (σ 16 0) (σ 15) s_ rv ∧ (∀ F, (F < 17 ∨ 25 < F) → uu F = σ F) ∧ BI uu))) X dX5_play_9 hret σ (⟨Or.inl ⟨hp2, rfl⟩, fun _ _ => rfl, hbi⟩)
set_option maxHeartbeats 4000000 in
set_option maxRecDepth 100000 in
theorem kX5_drift (l : Launch) (D : va_G) (E : Nat → Nat) (q : Nat → Nat) (σ : St) (k : Int) (hwf : WfC σ) (hji : JI σ) (hbi : BI σ) (hr : (-2147483648 ≤ k ∧ k < 2147483648)) : CtI l D E yX5_drift wsX5_drift ({ frames := 5, cells := 0, slots := 0, locals := 142 } : Room) [.ref (q 0), .int (jI k)] (CW E q σ) (CW E q) (fun (rv : Int) (uu : St) => (fDrift (σ 1 0) (σ 3) (σ 4 0) (σ 5) (σ 6) (σ 7) (σ 8) (σ 9) (σ 16 0) (σ 15) k rv ∧ (∀ F, (F < 17 ∨ 25 < F) → uu F = σ F) ∧ BI uu)) := by
  refine mk_I (cc := cX5_drift) (maxL := 4) (ret := some .int) (by decide) rfl (Nat.le_of_ble_eq_true rfl) ?_
  intro p e s m args below meth c A X hret
  have hin5 : ∀ x ∈ u_ws RX5 TX5 6, x ∈ wsX5_drift := fun _ h => List.mem_cons_of_mem _ (List.mem_append_left _ (List.mem_append_left _ (List.mem_append_left _ (List.mem_append_left _ (List.mem_append_right _ h)))))
  have hin0 : ∀ x ∈ u_ws RX0 TX0 9, x ∈ wsX5_drift := fun _ h => List.mem_cons_of_mem _ (List.mem_append_left _ (List.mem_append_left _ (List.mem_append_left _ (List.mem_append_right _ h))))
  have hin3 : ∀ x ∈ u_ws RX3 TX3 9, x ∈ wsX5_drift := fun _ h => List.mem_cons_of_mem _ (List.mem_append_left _ (List.mem_append_left _ (List.mem_append_right _ h)))
  have hin2 : ∀ x ∈ u_ws RX2 TX2 2, x ∈ wsX5_drift := fun _ h => List.mem_cons_of_mem _ (List.mem_append_left _ (List.mem_append_right _ h))
  have hin1 : ∀ x ∈ u_ws RX1 TX1 5, x ∈ wsX5_drift := fun _ h => List.mem_cons_of_mem _ (List.mem_append_right _ h)
  refine z_lv (lv' := [(0, .ref (q 0)), (1, .int (jI k))]) [0, 1] rfl ?_
  obtain ⟨n1, n0, n4, n16⟩ := hwf.n
  refine z_aload_n (pc' := 1) X dX5_drift_0 rfl 0 rfl rfl ?_
  refine z_iload_n (pc' := 2) X dX5_drift_1 rfl 1 rfl rfl ?_
  refine z_callVI (pc' := 5) (S := St) (As := [.int (jI k)]) (rest := []) X dX5_drift_2 rfl (kX5_isTie l D E q σ k  (hwf) (by omega)) (cwV 1 X.1.2.2.2.2 gX5_drift_X5_isTie rfl rfl rfl (by decide +kernel) ⟨Nat.le_of_ble_eq_true rfl, Nat.le_of_ble_eq_true rfl⟩) 0 rfl rfl rfl rfl (Nat.le_of_ble_eq_true rfl) (fun r2 u2 hp2 => ?_)
  obtain ⟨rfl, hp2⟩ := hp2
  rcases hp2 with ⟨rfl, hp2⟩ | ⟨rfl, hp2⟩
  · refine z_if_ne (tgt := 10) (pc' := 8) X dX5_drift_5 (by decide) rfl (by (first | omega | (rw [e5]; omega) | (rw [e7]; omega) | (rw [e5, e7]; omega))) (fun _ => ?_) (fun h => absurd h (by decide))
    refine z_aload_n (pc' := 11) X dX5_drift_10 rfl 0 rfl rfl ?_
    refine z_get (pc' := 14) (C := RX5) (ref := "PivotBeats") (T := TX5) (N := 6) (v := .ref (q 39)) X dX5_drift_11 rfl hin5 0 rfl rfl 3 (by decide) (by decide +kernel) rfl rfl ?_
    refine z_aload_n (pc' := 15) X dX5_drift_14 rfl 0 rfl rfl ?_
    refine z_get (pc' := 18) (C := RX5) (ref := "PivotBeats") (T := TX5) (N := 6) (v := .ref (q 36)) X dX5_drift_15 rfl hin5 0 rfl rfl 0 (by decide) (by decide +kernel) rfl rfl ?_
    refine z_aload_n (pc' := 19) X dX5_drift_18 rfl 0 rfl rfl ?_
    refine z_get (pc' := 22) (C := RX5) (ref := "PivotBeats") (T := TX5) (N := 6) (v := .ref (q 37)) X dX5_drift_19 rfl hin5 0 rfl rfl 1 (by decide) (by decide +kernel) rfl rfl ?_
    refine z_aload_n (pc' := 23) X dX5_drift_22 rfl 0 rfl rfl ?_
    refine z_get (pc' := 26) (C := RX5) (ref := "PivotBeats") (T := TX5) (N := 6) (v := .ref (q 38)) X dX5_drift_23 rfl hin5 0 rfl rfl 2 (by decide) (by decide +kernel) rfl rfl ?_
    refine z_callVV (pc' := 29) (S := St) (As := [.ref (q 36), .ref (q 37), .ref (q 38)]) (rest := []) X dX5_drift_26 rfl (kX0_find l D E q σ   (hwf) (hji) (hbi)) (cwV 3 X.1.2.2.2.2 gX5_drift_X0_find rfl rfl rfl (by decide +kernel) ⟨Nat.le_of_ble_eq_true rfl, Nat.le_of_ble_eq_true rfl⟩) 4 rfl rfl rfl rfl (Nat.le_of_ble_eq_true rfl) (fun u26 hp26 => ?_)
    obtain ⟨hn26, hk26, hb26⟩ := hp26
    have ht := hwf.tie (k := k) (by omega) (by omega)
    have w26 : WfC u26 := eqC.wf (σ := σ) (fun F hF => hn26 F (by omega)) hwf
    have e5 : u26 5 = σ 5 := hn26 5 (by decide)
    have e7 : u26 7 = σ 7 := hn26 7 (by decide)
    have ra := dcR hwf hn26 hk26 hb26 (s := σ 5 k) ht.1
    have rb := dcR hwf hn26 hk26 hb26 (s := σ 7 k) ht.2.2.1
    refine z_aload_n (pc' := 30) X dX5_drift_29 rfl 0 rfl rfl ?_
    refine z_get (pc' := 33) (C := RX5) (ref := "PivotBeats") (T := TX5) (N := 6) (v := .ref (q 39)) X dX5_drift_30 rfl hin5 0 rfl rfl 3 (by decide) (by decide +kernel) rfl rfl ?_
    refine z_get (pc' := 36) (C := RX0) (ref := "PivotBeats$BestPlay") (T := TX0) (N := 9) (v := .ref (q 17)) X dX5_drift_33 rfl hin0 4 rfl rfl 0 (by decide) (by decide +kernel) rfl rfl ?_
    refine z_aload_n (pc' := 37) X dX5_drift_36 rfl 0 rfl rfl ?_
    refine z_get (pc' := 40) (C := RX5) (ref := "PivotBeats") (T := TX5) (N := 6) (v := .ref (q 36)) X dX5_drift_37 rfl hin5 0 rfl rfl 0 (by decide) (by decide +kernel) rfl rfl ?_
    refine z_get (pc' := 43) (C := RX3) (ref := "PivotBeats$Piece") (T := TX3) (N := 9) (v := .ref (q 5)) X dX5_drift_40 rfl hin3 1 rfl rfl 4 (by decide) (by decide +kernel) rfl rfl ?_
    refine z_iload_n (pc' := 44) X dX5_drift_43 rfl 1 rfl rfl ?_
    refine z_iald (pc' := 45) (f := u26 5) (n := 12) X dX5_drift_44 rfl 8 rfl (by decide) (by (first | omega | (rw [e5]; omega) | (rw [e7]; omega) | (rw [e5, e7]; omega))) ?_
    refine z_iald (pc' := 46) (f := u26 17) (n := 7) X dX5_drift_45 rfl 19 rfl (by decide) (by (first | omega | (rw [e5]; omega) | (rw [e7]; omega) | (rw [e5, e7]; omega))) ?_
    refine z_istore_n (pc' := 47) (lv' := [(2, .int (jI (u26 17 (u26 5 k)))), (0, .ref (q 0)), (1, .int (jI k))]) X dX5_drift_46 rfl rfl (by decide) rfl ?_
    refine z_aload_n (pc' := 48) X dX5_drift_47 rfl 1 rfl rfl ?_
    refine z_get (pc' := 51) (C := RX5) (ref := "PivotBeats") (T := TX5) (N := 6) (v := .ref (q 39)) X dX5_drift_48 rfl hin5 0 rfl rfl 3 (by decide) (by decide +kernel) rfl rfl ?_
    refine z_get (pc' := 54) (C := RX0) (ref := "PivotBeats$BestPlay") (T := TX0) (N := 9) (v := .ref (q 17)) X dX5_drift_51 rfl hin0 4 rfl rfl 0 (by decide) (by decide +kernel) rfl rfl ?_
    refine z_aload_n (pc' := 55) X dX5_drift_54 rfl 1 rfl rfl ?_
    refine z_get (pc' := 58) (C := RX5) (ref := "PivotBeats") (T := TX5) (N := 6) (v := .ref (q 36)) X dX5_drift_55 rfl hin5 0 rfl rfl 0 (by decide) (by decide +kernel) rfl rfl ?_
    refine z_get (pc' := 61) (C := RX3) (ref := "PivotBeats$Piece") (T := TX3) (N := 9) (v := .ref (q 7)) X dX5_drift_58 rfl hin3 1 rfl rfl 6 (by decide) (by decide +kernel) rfl rfl ?_
    refine z_iload_n (pc' := 62) X dX5_drift_61 rfl 2 rfl rfl ?_
    refine z_iald (pc' := 63) (f := u26 7) (n := 12) X dX5_drift_62 rfl 10 rfl (by decide) (by (first | omega | (rw [e5]; omega) | (rw [e7]; omega) | (rw [e5, e7]; omega))) ?_
    refine z_iald (pc' := 64) (f := u26 17) (n := 7) X dX5_drift_63 rfl 19 rfl (by decide) (by (first | omega | (rw [e5]; omega) | (rw [e7]; omega) | (rw [e5, e7]; omega))) ?_
    refine z_istore_n (pc' := 65) (lv' := [(3, .int (jI (u26 17 (u26 7 k)))), (2, .int (jI (u26 17 (u26 5 k)))), (0, .ref (q 0)), (1, .int (jI k))]) X dX5_drift_64 rfl rfl (by decide) rfl ?_
    refine z_iload_n (pc' := 66) X dX5_drift_65 rfl 1 rfl rfl ?_
    refine z_bipush (pc' := 68) X dX5_drift_66 rfl rfl ?_
    refine z_icmp_eq (tgt := 77) (pc' := 71) X dX5_drift_68 (by decide) rfl (by (first | omega | (rw [e5]; omega) | (rw [e7]; omega) | (rw [e5, e7]; omega))) (fun h68 => ?_) (fun h68 => ?_)
    · refine z_bipush (pc' := 79) X dX5_drift_77 rfl rfl ?_
      refine z_goto (tgt := 92) X dX5_drift_79 (by decide) ?_
      exact z_iret (post := (fun (rv : Int) (uu : St) => (fDrift (σ 1 0) (σ 3) (σ 4 0) (σ 5) (σ 6) (σ 7) (σ 8) (σ 9) (σ 16 0) (σ 15) k rv ∧ (∀ F, (F < 17 ∨ 25 < F) → uu F = σ F) ∧ BI uu))) X dX5_drift_92 hret u26 (by first | exact ⟨dc9 hwf hn26 hk26 hb26 hp2 (Or.inl (by rw [← e5]; exact h68)), hn26, hb26⟩ | exact ⟨dc9 hwf hn26 hk26 hb26 hp2 (Or.inr (by rw [← e7]; exact h74)), hn26, hb26⟩ | exact ⟨dcK hwf hn26 hk26 hb26 hp2 e5 e7 h68 h74, hn26, hb26⟩)
    · refine z_iload_n (pc' := 72) X dX5_drift_71 rfl 0 rfl rfl ?_
      refine z_bipush (pc' := 74) X dX5_drift_72 rfl rfl ?_
      refine z_icmp_ne (tgt := 82) (pc' := 77) X dX5_drift_74 (by decide) rfl (by (first | omega | (rw [e5]; omega) | (rw [e7]; omega) | (rw [e5, e7]; omega))) (fun h74 => ?_) (fun h74 => ?_)
      · refine z_aload_n (pc' := 83) X dX5_drift_82 rfl 2 rfl rfl ?_
        refine z_get (pc' := 86) (C := RX5) (ref := "PivotBeats") (T := TX5) (N := 6) (v := .ref (q 36)) X dX5_drift_83 rfl hin5 0 rfl rfl 0 (by decide) (by decide +kernel) rfl rfl ?_
        refine z_iload_n (pc' := 87) X dX5_drift_86 rfl 3 rfl rfl ?_
        refine z_iload_n (pc' := 88) X dX5_drift_87 rfl 1 rfl rfl ?_
        refine z_iload_n (pc' := 89) X dX5_drift_88 rfl 0 rfl rfl ?_
        refine z_callVI (pc' := 92) (S := St) (As := [.int (jI k), .int (jI (u26 17 (u26 5 k))), .int (jI (u26 17 (u26 7 k)))]) (rest := []) X dX5_drift_89 rfl (kX3_driftBy l D E q u26 k (u26 17 (u26 5 k)) (u26 17 (u26 7 k))  (w26) (by rw [e5, e7, hn26 4 (by decide)]; rw [e5] at h68; rw [e7] at h74; omega)) (cwV 3 X.1.2.2.2.2 gX5_drift_X3_driftBy rfl rfl rfl (by decide +kernel) ⟨Nat.le_of_ble_eq_true rfl, Nat.le_of_ble_eq_true rfl⟩) 1 rfl rfl rfl rfl (Nat.le_of_ble_eq_true rfl) (fun r89 u89 hp89 => ?_)
        obtain ⟨rfl, hp89⟩ := hp89; replace hp89 := hp89.symm; subst hp89
        exact z_iret (post := (fun (rv : Int) (uu : St) => (fDrift (σ 1 0) (σ 3) (σ 4 0) (σ 5) (σ 6) (σ 7) (σ 8) (σ 9) (σ 16 0) (σ 15) k rv ∧ (∀ F, (F < 17 ∨ 25 < F) → uu F = σ F) ∧ BI uu))) X dX5_drift_92 hret u26 (by first | exact ⟨dc9 hwf hn26 hk26 hb26 hp2 (Or.inl (by rw [← e5]; exact h68)), hn26, hb26⟩ | exact ⟨dc9 hwf hn26 hk26 hb26 hp2 (Or.inr (by rw [← e7]; exact h74)), hn26, hb26⟩ | exact ⟨dcK hwf hn26 hk26 hb26 hp2 e5 e7 h68 h74, hn26, hb26⟩)
      · refine z_bipush (pc' := 79) X dX5_drift_77 rfl rfl ?_
        refine z_goto (tgt := 92) X dX5_drift_79 (by decide) ?_
        exact z_iret (post := (fun (rv : Int) (uu : St) => (fDrift (σ 1 0) (σ 3) (σ 4 0) (σ 5) (σ 6) (σ 7) (σ 8) (σ 9) (σ 16 0) (σ 15) k rv ∧ (∀ F, (F < 17 ∨ 25 < F) → uu F = σ F) ∧ BI uu))) X dX5_drift_92 hret u26 (by first | exact ⟨dc9 hwf hn26 hk26 hb26 hp2 (Or.inl (by rw [← e5]; exact h68)), hn26, hb26⟩ | exact ⟨dc9 hwf hn26 hk26 hb26 hp2 (Or.inr (by rw [← e7]; exact h74)), hn26, hb26⟩ | exact ⟨dcK hwf hn26 hk26 hb26 hp2 e5 e7 h68 h74, hn26, hb26⟩)
  · refine z_if_ne (tgt := 10) (pc' := 8) X dX5_drift_5 (by decide) rfl (by (first | omega | (rw [e5]; omega) | (rw [e7]; omega) | (rw [e5, e7]; omega))) (fun h => absurd h (by decide)) (fun _ => ?_)
    refine z_iconst (pc' := 9) X dX5_drift_8 rfl ?_
    exact z_iret (post := (fun (rv : Int) (uu : St) => (fDrift (σ 1 0) (σ 3) (σ 4 0) (σ 5) (σ 6) (σ 7) (σ 8) (σ 9) (σ 16 0) (σ 15) k rv ∧ (∀ F, (F < 17 ∨ 25 < F) → uu F = σ F) ∧ BI uu))) X dX5_drift_9 hret σ (⟨Or.inl ⟨hp2, rfl⟩, fun _ _ => rfl, hbi⟩)
