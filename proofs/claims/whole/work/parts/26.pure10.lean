/-! ===== pure: the first of the best, mark by mark ===== -/
section FP
variable {nS nM : Int} {F0 : Int → Int} {H : (Int → Int) → Int} {pl : Int → Prop} {x : Int}
def noBest (nS nM : Int) (F0 : Int → Int) (H : (Int → Int) → Int) (pl : Int → Prop) (x : Int) (fo : Int → Int) (t m : Int) : Prop := ¬ ∃ g, aOk nS (ALf nM F0) g ∧ H g = x ∧ (∀ t', 0 ≤ t' → t' < t → pl t' → g t' = fo t') ∧ g t = m
def FPs (nS nM : Int) (F0 : Int → Int) (H : (Int → Int) → Int) (pl : Int → Prop) (x s : Int) (fo : Int → Int) : Prop :=
  (∀ t, 0 ≤ t → t < nS → F0 t = -9 ∨ (0 ≤ F0 t ∧ F0 t < nM)) ∧ (∀ t, 0 ≤ t → t < nS → ¬ F0 t = -9 → fo t = F0 t) ∧ (∀ t, 0 ≤ t → t < nS → F0 t = -9 → ¬ (t < s ∧ pl t) → fo t = -9) ∧ (∀ t, 0 ≤ t → t < nS → t < s → pl t → 0 ≤ fo t ∧ fo t < nM) ∧ MinH nS nM F0 H x ∧ MinH nS nM fo H x ∧ (∀ t, 0 ≤ t → t < nS → t < s → pl t → ∀ m, 0 ≤ m → m < fo t → noBest nS nM F0 H pl x fo t m)
theorem FP_0 (h0 : ∀ t, 0 ≤ t → t < nS → F0 t = -9 ∨ (0 ≤ F0 t ∧ F0 t < nM)) (hx : MinH nS nM F0 H x) : FPs nS nM F0 H pl x 0 F0 :=
  ⟨h0, fun _ _ _ _ => rfl, fun _ _ _ h _ => h, fun t a1 _ a2 => by omega, hx, hx, fun t a1 _ a2 => by omega⟩
theorem FP_sub {s : Int} {fo : Int → Int} (h : FPs nS nM F0 H pl x s fo) {g : Int → Int} (hg : aOk nS (ALf nM fo) g) : aOk nS (ALf nM F0) g ∧ ∀ t, 0 ≤ t → t < nS → ¬ fo t = -9 → g t = fo t := by
  obtain ⟨h1, h2, h3, -⟩ := h
  refine ⟨fun t t0 t1 => ⟨(hg t t0 t1).1, ?_⟩, fun t t0 t1 q => (hg t t0 t1).2.resolve_left q⟩
  by_cases q : F0 t = -9
  · exact Or.inl q
  · have e := h2 t t0 t1 q
    have := (hg t t0 t1).2
    rw [e] at this
    exact this
theorem FP_rng {s : Int} {fo : Int → Int} (h : FPs nS nM F0 H pl x s fo) : ∀ t, 0 ≤ t → t < nS → fo t = -9 ∨ (0 ≤ fo t ∧ fo t < nM) := by
  obtain ⟨h1, h2, h3, h4, h5, ⟨-, g, hg, -⟩, -⟩ := h
  intro t t0 t1
  by_cases q : fo t = -9
  · exact Or.inl q
  · have := hg t t0 t1
    rcases this.2 with r | r
    · exact absurd r q
    · rw [← r]; exact Or.inr this.1
theorem FP_skip {s : Int} {fo : Int → Int} (h : FPs nS nM F0 H pl x s fo) (hs : 0 ≤ s ∧ s < nS) (hq : ¬ fo s = -9 ∨ ¬ pl s) : FPs nS nM F0 H pl x (s + 1) fo := by
  have hr := FP_rng h
  obtain ⟨h1, h2, h3, h4, h5, h6, h7⟩ := h
  refine ⟨h1, h2, fun t t0 t1 e q => ?_, fun t t0 t1 t2 p => ?_, h5, h6, fun t t0 t1 t2 p m m0 m1 => ?_⟩
  · exact h3 t t0 t1 e (fun z => q ⟨by omega, z.2⟩)
  · by_cases e : t = s
    · subst e
      rcases hq with q | q
      · exact (hr t t0 t1).resolve_left q
      · exact absurd p q
    · exact h4 t t0 t1 (by omega) p
  · by_cases e : t = s
    · subst e
      rcases hq with q | q
      · rintro ⟨g, o, -, -, e2⟩
        have hF : ¬ F0 t = -9 := fun z => q (h3 t t0 t1 z (fun z => by omega))
        have e3 := h2 t t0 t1 hF
        have := (o t t0 t1).2.resolve_left hF
        omega
      · exact absurd p q
    · exact h7 t t0 t1 (by omega) p m m0 m1
/-- a mark for s that is still to be found is there -/
theorem FP_more {s m : Int} {fo : Int → Int} (h : FPs nS nM F0 H pl x s fo) (hs : 0 ≤ s ∧ s < nS) (hm : ∀ m', 0 ≤ m' → m' < m → noBest nS nM F0 H pl x fo s m') : m < nM := by
  have hsub := fun g => FP_sub h (g := g)
  obtain ⟨h1, h2, h3, h4, h5, ⟨-, g, hg, e⟩, h7⟩ := h
  obtain ⟨o, k⟩ := hsub g hg
  have r := (hg s hs.1 hs.2).1
  by_cases q : g s < m
  · exact absurd ⟨g, o, e, fun t' a1 a2 p => k t' a1 (by omega) (by have := h4 t' a1 (by omega) a2 p; omega), rfl⟩ (hm (g s) r.1 q)
  · omega
theorem FP_eq {s m : Int} {fo fo' : Int → Int} (h : FPs nS nM F0 H pl x s fo) (hs : 0 ≤ s ∧ s < nS) (h9 : fo s = -9) (hp : pl s) (hm0 : 0 ≤ m ∧ m < nM) (hm : ∀ m', 0 ≤ m' → m' < m → noBest nS nM F0 H pl x fo s m') (hf : ∀ t, fo' t = if t = s then m else fo t) (hx : MinH nS nM fo' H x) : FPs nS nM F0 H pl x (s + 1) fo' := by
  have hs9 : F0 s = -9 := by
    by_cases q : F0 s = -9
    · exact q
    · have := h.2.1 s hs.1 hs.2 q
      omega
  obtain ⟨h1, h2, h3, h4, h5, h6, h7⟩ := h
  have ne : ∀ t, t ≠ s → fo' t = fo t := fun t q => by rw [hf, if_neg q]
  have at_ : fo' s = m := by rw [hf, if_pos rfl]
  refine ⟨h1, fun t t0 t1 q => ?_, fun t t0 t1 e q => ?_, fun t t0 t1 t2 p => ?_, h5, hx, fun t t0 t1 t2 p m' a0 a1 => ?_⟩
  · rw [ne t (fun z => q (by rw [z]; exact hs9))]; exact h2 t t0 t1 q
  · have hts : t ≠ s := fun z => q ⟨by omega, by rw [z]; exact hp⟩
    rw [ne t hts]
    exact h3 t t0 t1 e (fun z => q ⟨by omega, z.2⟩)
  · by_cases e : t = s
    · rw [e, at_]; exact hm0
    · rw [ne t e]; exact h4 t t0 t1 (by omega) p
  · by_cases e : t = s
    · subst e
      rw [at_] at a1
      rintro ⟨g, o, eg, k, e2⟩
      exact hm m' a0 a1 ⟨g, o, eg, fun t' b0 b1 p' => by rw [k t' b0 b1 p', ne t' (by omega)], e2⟩
    · rw [ne t e] at a1
      rintro ⟨g, o, eg, k, e2⟩
      exact h7 t t0 t1 (by omega) p m' a0 a1 ⟨g, o, eg, fun t' b0 b1 p' => by rw [k t' b0 b1 p', ne t' (by omega)], e2⟩
theorem FP_ne {s m y : Int} {fo fo' : Int → Int} (h : FPs nS nM F0 H pl x s fo) (hs : 0 ≤ s ∧ s < nS) (h9 : fo s = -9) (hm0 : 0 ≤ m ∧ m < nM) (hm : ∀ m', 0 ≤ m' → m' < m → noBest nS nM F0 H pl x fo s m') (hf : ∀ t, fo' t = if t = s then m else fo t) (hy : MinH nS nM fo' H y) (hxy : ¬ y = x) : ∀ m', 0 ≤ m' → m' < m + 1 → noBest nS nM F0 H pl x fo s m' := by
  intro m' a0 a1
  by_cases q : m' < m
  · exact hm m' a0 q
  · have em : m' = m := by omega
    subst em
    rintro ⟨g, o, eg, k, e2⟩
    have hsub := fun g => FP_sub h (g := g)
    obtain ⟨h1, h2, h3, h4, h5, h6, h7⟩ := h
    have ne : ∀ t, t ≠ s → fo' t = fo t := fun t q => by rw [hf, if_neg q]
    have at_ : fo' s = m' := by rw [hf, if_pos rfl]
    have og : aOk nS (ALf nM fo') g := by
      intro t t0 t1
      refine ⟨(o t t0 t1).1, ?_⟩
      by_cases e : t = s
      · rw [e, at_]; exact Or.inr e2
      · rw [ne t e]
        by_cases e9 : F0 t = -9
        · by_cases e5 : t < s ∧ pl t
          · exact Or.inr (k t t0 e5.1 e5.2)
          · exact Or.inl (h3 t t0 t1 e9 e5)
        · rw [h2 t t0 t1 e9]
          exact (o t t0 t1).2
    have l1 := hy.1 g og
    obtain ⟨g2, o2, e3⟩ := hy.2
    have o3 : aOk nS (ALf nM fo) g2 := by
      intro t t0 t1
      refine ⟨(o2 t t0 t1).1, ?_⟩
      by_cases e : t = s
      · rw [e]; exact Or.inl h9
      · rw [← ne t e]; exact (o2 t t0 t1).2
    have l2 := h6.1 g2 o3
    exact hxy (by omega)
theorem FP_end {fo : Int → Int} (h : FPs nS nM F0 H pl x nS fo) : FBP nS nM F0 H pl fo x := by
  have hsub := fun g => FP_sub h (g := g)
  obtain ⟨h1, h2, h3, h4, h5, h6, h7⟩ := h
  refine ⟨h5, ?_, fun t t0 t1 p m m0 m1 => h7 t t0 t1 t1 p m m0 m1⟩
  obtain ⟨-, g, hg, e⟩ := h6
  obtain ⟨o, k⟩ := hsub g hg
  exact ⟨g, o, e, fun t t0 t1 p => k t t0 t1 (by have := h4 t t0 t1 t1 p; omega)⟩
end FP
/-- the pins that hold, as places of marks -/
def pinF (mk : Int → Int) (nM : Int) (pn : Int → Int) (s : Int) : Int := ixF mk (pn s) nM.toNat
theorem pinF_rng (mk : Int → Int) {nM : Int} (h : 0 ≤ nM) (pn : Int → Int) (s : Int) : pinF mk nM pn s = -9 ∨ (0 ≤ pinF mk nM pn s ∧ pinF mk nM pn s < nM) := by
  unfold pinF
  rcases ixF_cases mk (pn s) nM.toNat with q | q
  · exact Or.inl q.1
  · right; omega
/-- the least over the root's row is the least of all -/
theorem lh_end {σ u : St} {nM : Int} {fo : Int → Int} (hwf : WfM σ) (h1 : 1 ≤ σ 0 0) (hM1 : 1 ≤ nM) (hfo : ∀ s, 0 ≤ s → s < σ 0 0 → fo s = -9 ∨ (0 ≤ fo s ∧ fo s < nM)) (hT : TF (mA σ) (mV σ) (mB σ) (mW σ) (σ 4 0).toNat 0 (σ 10 0) (σ 11) (σ 12))
    (hD : DPI (σ 0 0) (ALf nM fo) (mA σ) (mB σ) (hmF (mV σ) (mW σ) (mE σ) (σ 14)) (σ 11) (σ 12) (σ 10 0).toNat (tbl u) 1) (hB : TBo (σ 0 0) nM fo u 63) : MinH (σ 0 0) nM fo (HC (σ 4 0).toNat (mA σ) (mV σ) (mB σ) (mW σ) (mE σ) (σ 14)) (mnF (tbl u 0) 1000000000 nM.toNat) ∧ (0 ≤ mnF (tbl u 0) 1000000000 nM.toNat ∧ mnF (tbl u 0) 1000000000 nM.toNat < 1000000000) := by
  have n4 := hwf.n.2.2.1
  have tree := fun g => HC_tree (er := mE σ) (mk := σ 14) hT (by have := hwf.tok; exact this) rfl g
  have e0 : σ 11 0 = 0 := hT.2.1
  obtain ⟨d1, d2⟩ := DP_end hD
  rw [e0] at d1 d2
  obtain ⟨q1, q2, q3⟩ := mnF_is (tbl u 0) 1000000000 nM.toNat
  have hch : ∃ g0 : Int → Int, aOk (σ 0 0) (ALf nM fo) g0 := by
    refine ⟨fun s => if fo s = -9 then 0 else fo s, fun s s0 s1 => ?_⟩
    by_cases q : fo s = -9
    · show ALf nM fo s (if fo s = -9 then 0 else fo s)
      rw [if_pos q]; exact ⟨by omega, Or.inl q⟩
    · show ALf nM fo s (if fo s = -9 then 0 else fo s)
      rw [if_neg q]; exact ⟨(hfo s s0 s1).resolve_left q, Or.inr rfl⟩
  obtain ⟨g0, hg0⟩ := hch
  have a0 := hg0 0 (by omega) (by omega)
  have b0 := (hB 0 (g0 0) (by omega) (by omega) a0.1.1 a0.1.2).1 a0
  have l0 := q2 (g0 0) a0.1.1 (by have := a0.1; omega)
  obtain ⟨m, hm, em⟩ : ∃ m, ALf nM fo 0 m ∧ mnF (tbl u 0) 1000000000 nM.toNat = tbl u 0 m := by
    rcases q3 with r | ⟨y, r1, r2⟩
    · omega
    · rcases ALf_dec (fo := fo) (s := 0) (show 0 ≤ y ∧ y < nM by omega) with al | al
      · exact ⟨y, al, r2⟩
      · have := (hB 0 y (by omega) (by omega) (by omega) (by omega)).2 al
        omega
  have bm := (hB 0 m (by omega) (by omega) hm.1.1 hm.1.2).1 hm
  refine ⟨⟨fun g hg => ?_, ?_⟩, by omega⟩
  · have ag := hg 0 (by omega) (by omega)
    have l1 := q2 (g 0) ag.1.1 (by have := ag.1; omega)
    have l2 := d1 g hg
    rw [tree g] at l2
    omega
  · obtain ⟨g', o1, o2, o3⟩ := d2 (fun s => if s = 0 then m else g0 s) (by
      intro s s0 s1
      by_cases q : s = 0
      · show ALf nM fo s (if s = 0 then m else g0 s)
        rw [if_pos q, q]; exact hm
      · show ALf nM fo s (if s = 0 then m else g0 s)
        rw [if_neg q]; exact hg0 s s0 s1)
    refine ⟨g', o1, ?_⟩
    rw [← tree g', o3, if_pos rfl, em]
