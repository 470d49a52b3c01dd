/-! ===== class and reference side by side ===== -/
theorem BI.same {u σ : St} (h : ∀ F, F = 1 ∨ (3 ≤ F ∧ F ≤ 9) ∨ (15 ≤ F ∧ F ≤ 19) → u F = σ F) (hb : BI σ) : BI u := by
  unfold BI at *
  rw [h 1 (by omega), h 3 (by omega), h 4 (by omega), h 5 (by omega), h 6 (by omega), h 7 (by omega), h 8 (by omega), h 9 (by omega), h 15 (by omega), h 16 (by omega), h 17 (by omega), h 18 (by omega), h 19 (by omega)]
  exact hb
theorem PIv.same {u σ : St} (h : ∀ F, 25 < F → u F = σ F) (hb : PIv σ) : PIv u := by
  unfold PIv PR at *
  rw [h 26 (by omega), h 27 (by omega), h 28 (by omega), h 29 (by omega), h 30 (by omega)]
  exact hb
def IC (τ : St) : Prop := WfC τ ∧ JI τ ∧ BI τ ∧ PIv τ
def Rel (σ τ : St) : Prop := σ 0 0 = τ 1 0 ∧ σ 1 = τ 2 ∧ (∀ s, 0 ≤ s → s < τ 1 0 → σ 2 s = τ 3 s) ∧ σ 3 0 = τ 0 0 ∧ σ 4 0 = τ 4 0 ∧ (mA σ = τ 5 ∧ mV σ = τ 6 ∧ mB σ = τ 7 ∧ mW σ = τ 8 ∧ mE σ = τ 9) ∧ σ 13 0 = τ 16 0 ∧ σ 14 = τ 15
def Bth (σ τ : St) : Prop := IC τ ∧ Rel σ τ
theorem Bth.wf {σ τ : St} (h : Bth σ τ) : WfM σ := by
  obtain ⟨⟨hw, -⟩, e0, e1, e2, e3, e4, ⟨ea, ev, eb, ew, ee⟩, e13, e14⟩ := h
  unfold WfM
  rw [e0, e1, e3, e4, ea, ev, eb, ew, ee, e13, e14]
  obtain ⟨h1, h2, h3, h4⟩ := hw
  exact ⟨h1, h2, fun s p q => by rw [e2 s p q]; exact h3 s p q, h4⟩
theorem Rel.eqM {σ τ u : St} (h : Rel σ τ) (e : eqM u σ) : Rel u τ := by
  obtain ⟨e0, e1, e2, e3, e4, ⟨ea, ev, eb, ew, ee⟩, e13, e14⟩ := h
  obtain ⟨a0, a1, a2, a3, a4, a5, a13, a14⟩ := e
  refine ⟨by rw [a0]; exact e0, by rw [a1]; exact e1, fun s p q => by rw [a2]; exact e2 s p q, by rw [a3]; exact e3, by rw [a4]; exact e4, ⟨?_, ?_, ?_, ?_, ?_⟩, by rw [a13]; exact e13, by rw [a14]; exact e14⟩
  · unfold mA; rw [a5]; exact ea
  · unfold mV; rw [a5]; exact ev
  · unfold mB; rw [a5]; exact eb
  · unfold mW; rw [a5]; exact ew
  · unfold mE; rw [a5]; exact ee
theorem Bth.q {σ τ u : St} (h : Bth σ τ) (e : eqM u σ) : Bth u τ := ⟨h.1, h.2.eqM e⟩
/-- the fields that best plays and pivots use for themselves -/
theorem Bth.best {σ τ u s2 : St} (h : Bth σ τ) (e : eqM s2 σ) (hn : ∀ F, (F < 17 ∨ 25 < F) → u F = τ F) (hb : BI u) : Bth s2 u := by
  obtain ⟨⟨hw, hj, -, hp⟩, hr⟩ := h
  refine ⟨⟨eqC.wf (fun F hF => hn F (by omega)) hw, JI.same (fun F hF => hn F (by omega)) hj, hb, PIv.same (fun F hF => hn F (by omega)) hp⟩, ?_⟩
  have hr := hr.eqM e
  unfold Rel at *
  rw [hn 0 (by omega), hn 1 (by omega), hn 2 (by omega), hn 3 (by omega), hn 4 (by omega), hn 5 (by omega), hn 6 (by omega), hn 7 (by omega), hn 8 (by omega), hn 9 (by omega), hn 15 (by omega), hn 16 (by omega)]
  exact hr
theorem Bth.pvs {σ τ u s2 : St} (h : Bth σ τ) (e : ∀ F, F ≠ 17 → F ≠ 18 → s2 F = σ F) (hn : ∀ F, F < 26 → u F = τ F) (hb : PIv u) : Bth s2 u := by
  obtain ⟨⟨hw, hj, hbi, -⟩, hr⟩ := h
  refine ⟨⟨eqC.wf (fun F hF => hn F (by omega)) hw, JI.same (fun F hF => hn F (by omega)) hj, BI.same (fun F hF => hn F (by omega)) hbi, hb⟩, ?_⟩
  have hr := hr.eqM (u := s2) ⟨e 0 (by omega) (by omega), e 1 (by omega) (by omega), e 2 (by omega) (by omega), e 3 (by omega) (by omega), e 4 (by omega) (by omega), e 5 (by omega) (by omega), e 13 (by omega) (by omega), e 14 (by omega) (by omega)⟩
  unfold Rel at *
  rw [hn 0 (by omega), hn 1 (by omega), hn 2 (by omega), hn 3 (by omega), hn 4 (by omega), hn 5 (by omega), hn 6 (by omega), hn 7 (by omega), hn 8 (by omega), hn 9 (by omega), hn 15 (by omega), hn 16 (by omega)]
  exact hr
/-! answers that hang on pins alone within the sections -/
theorem fSec_pn {nS : Int} {bt pn pn' : Int → Int} {nT : Int} {a v b w : Int → Int} {nM : Int} {mk : Int → Int} (h : ∀ s, 0 ≤ s → s < nS → pn s = pn' s) (s what : Int) : fSec nS bt pn nT a v b w nM mk s what = fSec nS bt pn' nT a v b w nM mk s what := by
  unfold fSec
  by_cases hs : 0 ≤ s ∧ s < nS
  · rw [if_pos hs, if_pos hs, h s hs.1 hs.2]
  · rw [if_neg hs, if_neg hs]
theorem fMany_pn {nS : Int} {pn pn' : Int → Int} {st nT : Int} {a v b w : Int → Int} {nM : Int} {mk : Int → Int} (hS : 0 ≤ nS) (h : ∀ s, 0 ≤ s → s < nS → pn s = pn' s) (what : Int) : fMany nS pn st nT a v b w nM mk what = fMany nS pn' st nT a v b w nM mk what := by
  unfold fMany
  rw [smI_congr (f := fun s => pnH nM mk (pn s)) (g := fun s => pnH nM mk (pn' s)) nS.toNat (fun s h0 h1 => by show pnH nM mk (pn s) = pnH nM mk (pn' s); rw [h s h0 (by omega)])]
theorem aOk_fo {nS nM : Int} {fo fo' : Int → Int} (h : ∀ s, 0 ≤ s → s < nS → fo s = fo' s) (g : Int → Int) : aOk nS (ALf nM fo) g ↔ aOk nS (ALf nM fo') g := by
  constructor
  · intro k s h0 h1
    have z := k s h0 h1
    unfold ALf at *
    rw [← h s h0 h1]
    exact z
  · intro k s h0 h1
    have z := k s h0 h1
    unfold ALf at *
    rw [h s h0 h1]
    exact z
theorem FBP_fo {nS nM : Int} {fo fo' : Int → Int} {H : (Int → Int) → Int} {pl : Int → Prop} {G : Int → Int} {x : Int} (h : ∀ s, 0 ≤ s → s < nS → fo s = fo' s) (k : FBP nS nM fo H pl G x) : FBP nS nM fo' H pl G x := by
  obtain ⟨⟨m1, g1, m2, m3⟩, ⟨g2, m4, m5⟩, m6⟩ := k
  refine ⟨⟨fun g hg => m1 g ((aOk_fo h g).mpr hg), g1, (aOk_fo h g1).mp m2, m3⟩, ⟨g2, (aOk_fo h g2).mp m4, m5⟩, fun t t0 t1 tp m n0 n1 ⟨g, q1, q2⟩ => m6 t t0 t1 tp m n0 n1 ⟨g, (aOk_fo h g).mpr q1, q2⟩⟩
theorem FBx_one {nS : Int} {pn pn' : Int → Int} {nT : Int} {a v b w er : Int → Int} {nM : Int} {mk : Int → Int} {G G' : Int → Int} {x y : Int} (h : ∀ s, 0 ≤ s → s < nS → pn s = pn' s) (h1 : FBx nS pn nT a v b w er nM mk G x) (h2 : FBx nS pn' nT a v b w er nM mk G' y) : x = y ∧ ∀ t, 0 ≤ t → t < nS → jS a v b w nT.toNat 0 t = jS a v b w nT.toNat 0 0 → G t = G' t := by
  have h3 := FBP_fo (fo' := pinF mk nM pn') (fun s h0 h1 => by unfold pinF; rw [h s h0 h1]) h1
  exact FBP_one h3 h2
theorem fHarm_one {nS : Int} {pn pn' : Int → Int} {nT : Int} {a v b w er : Int → Int} {nM : Int} {mk : Int → Int} {x y : Int} (h : ∀ s, 0 ≤ s → s < nS → pn s = pn' s) (h1 : fHarm nS pn nT a v b w er nM mk x) (h2 : fHarm nS pn' nT a v b w er nM mk y) : x = y := by
  rcases h1 with ⟨c1, e1⟩ | ⟨c1, G, e1⟩ <;> rcases h2 with ⟨c2, e2⟩ | ⟨c2, G', e2⟩
  · rw [e1, e2]
  · exact absurd c1 (by rintro (q | q); exact c2.1 q; exact c2.2 q)
  · exact absurd c2 (by rintro (q | q); exact c1.1 q; exact c1.2 q)
  · exact (FBx_one h e1 e2).1
theorem fPlay_one {nS : Int} {pn pn' : Int → Int} {nT : Int} {a v b w er : Int → Int} {nM : Int} {mk : Int → Int} {s x y : Int} (h : ∀ s, 0 ≤ s → s < nS → pn s = pn' s) (h1 : fPlay nS pn nT a v b w er nM mk s x) (h2 : fPlay nS pn' nT a v b w er nM mk s y) : x = y := by
  rcases h1 with ⟨c1, e1⟩ | ⟨c1, d1, e1⟩ | ⟨c1, d1, f1, e1⟩ | ⟨c1, d1, f1, G, z, e1, g1⟩ <;> rcases h2 with ⟨c2, e2⟩ | ⟨c2, d2, e2⟩ | ⟨c2, d2, f2, e2⟩ | ⟨c2, d2, f2, G', z', e2, g2⟩ <;> first | exact absurd c1 c2 | exact absurd c2 c1 | exact absurd d1 d2 | exact absurd d2 d1 | exact absurd f1 f2 | exact absurd f2 f1 | (rw [e1, e2]) | (rw [g1, g2, (FBx_one h e1 e2).2 s c1.1 c1.2 f1])
theorem fDrift_one {nS : Int} {pn pn' : Int → Int} {nT : Int} {a v b w er : Int → Int} {nM : Int} {mk : Int → Int} {s x y : Int} (h : ∀ s, 0 ≤ s → s < nS → pn s = pn' s) (hk : ∀ k, 0 ≤ k → k < nT → (0 ≤ a k ∧ a k < nS) ∧ (0 ≤ b k ∧ b k < nS)) (h1 : fDrift nS pn nT a v b w er nM mk s x) (h2 : fDrift nS pn' nT a v b w er nM mk s y) : x = y := by
  rcases h1 with ⟨c1, e1⟩ | ⟨c1, d1, e1⟩ | ⟨c1, d1, f1, e1⟩ | ⟨c1, d1, f1, G, z, e1, g1⟩ <;> rcases h2 with ⟨c2, e2⟩ | ⟨c2, d2, e2⟩ | ⟨c2, d2, f2, e2⟩ | ⟨c2, d2, f2, G', z', e2, g2⟩ <;> first | exact absurd c1 c2 | exact absurd c2 c1 | exact absurd d1 d2 | exact absurd d2 d1 | exact absurd f1 f2 | exact absurd f2 f1 | (rw [e1, e2]) | (rw [g1, g2, (FBx_one h e1 e2).2 (a s) (hk s c1.1 c1.2).1.1 (hk s c1.1 c1.2).1.2 f1.1, (FBx_one h e1 e2).2 (b s) (hk s c1.1 c1.2).2.1 (hk s c1.1 c1.2).2.2 f1.2])
theorem pvM_nn {st nT : Int} {a v b w : Int → Int} {s q : Int} (x : Int) : 0 ≤ pvM st nT a v b w s q x := by
  unfold pvM
  split <;> omega
theorem fPivot_one {nS st nT : Int} {a v b w : Int → Int} {s q k x y : Int} (h1 : fPivot nS st nT a v b w s q k x) (h2 : fPivot nS st nT a v b w s q k y) : x = y := by
  have key : ∀ z : Int, (0 ≤ z ∧ z < 400) → pvM st nT a v b w s q z = 1 → smI (pvM st nT a v b w s q) z.toNat = k → ¬ smI (pvM st nT a v b w s q) 400 ≤ k := by
    intro z hz hp hs hle
    have h3 := smI_mono (p := pvM st nT a v b w s q) pvM_nn (show z.toNat + 1 ≤ 400 by omega)
    have h4 : smI (pvM st nT a v b w s q) (z.toNat + 1) = smI (pvM st nT a v b w s q) z.toNat + pvM st nT a v b w s q (z.toNat : Int) := rfl
    rw [show ((z.toNat : Nat) : Int) = z by omega, hp, hs] at h4
    omega
  unfold fPivot at h1 h2
  rcases h1 with ⟨c1, e1⟩ | ⟨c1, d1, e1⟩ | ⟨c1, d1, f1, e1⟩ | ⟨c1, d1, f1, e1⟩ <;> rcases h2 with ⟨c2, e2⟩ | ⟨c2, d2, e2⟩ | ⟨c2, d2, f2, e2⟩ | ⟨c2, d2, f2, e2⟩ <;> first | exact absurd c1 c2 | exact absurd c2 c1 | exact absurd d1 d2 | exact absurd d2 d1 | exact absurd f1 f2 | exact absurd f2 f1 | (rw [e1, e2]; done) | skip
  rcases e1 with ⟨k1, e1⟩ | ⟨k1, e1⟩ <;> rcases e2 with ⟨k2, e2⟩ | ⟨k2, e2⟩
  · rw [e1, e2]
  · omega
  · omega
  · rcases e1 with ⟨z, z1, z2, z3, z4⟩ | ⟨z1, z4⟩ <;> rcases e2 with ⟨z', y1, y2, y3, y4⟩ | ⟨y1, y4⟩
    · have := kth_one (p := pvM st nT a v b w s q) pvM_nn z1.1 y1.1 z2 y2 (z3.trans y3.symm)
      rw [z4, y4, this]
    · exact absurd y1 (key z z1 z2 z3)
    · exact absurd z1 (key z' y1 y2 y3)
    · rw [z4, y4]
theorem up_o (σ : St) {F G : Nat} (e v : Int) (h : G ≠ F) : up σ F e v G = σ G := funext fun i => up_f σ e v i h
set_option maxHeartbeats 1000000 in
theorem pm_ofTie {σ τ s2 t2 : St} {rA rB : Int} {k what : Int} (h : Bth σ τ) (h5 : τ = t2 ∧ rA = fTie (τ 4 0) (τ 5) (τ 6) (τ 7) (τ 8) (τ 9) k what) (h6 : (rB = fTie (σ 4 0) (mA σ) (mV σ) (mB σ) (mW σ) (mE σ) k what ∧ eqM s2 σ)) : rA = rB ∧ Bth s2 t2 := by
  obtain ⟨e0, e1, e2, e3, e4, ⟨ea, ev, eb, ew, ee⟩, e13, e14⟩ := h.2
  obtain ⟨q5, e5⟩ := h5
  obtain ⟨e6, e⟩ := h6
  subst q5
  refine ⟨?_, h.q e⟩
  rw [e5, e6]
  simp only [e0, e1, e3, e4, ea, ev, eb, ew, ee, e13, e14]
set_option maxHeartbeats 1000000 in
theorem pm_tempo {σ τ s2 t2 : St} {rA rB : Int} {s_ which : Int} (h : Bth σ τ) (h5 : τ = t2 ∧ rA = fTempo (τ 1 0) (τ 0 0) (τ 4 0) (τ 5) (τ 6) (τ 7) (τ 8) s_ which) (h6 : (rB = fTempo (σ 0 0) (σ 3 0) (σ 4 0) (mA σ) (mV σ) (mB σ) (mW σ) s_ which ∧ eqM s2 σ)) : rA = rB ∧ Bth s2 t2 := by
  obtain ⟨e0, e1, e2, e3, e4, ⟨ea, ev, eb, ew, ee⟩, e13, e14⟩ := h.2
  obtain ⟨q5, e5⟩ := h5
  obtain ⟨e6, e⟩ := h6
  subst q5
  refine ⟨?_, h.q e⟩
  rw [e5, e6]
  simp only [e0, e1, e3, e4, ea, ev, eb, ew, ee, e13, e14]
set_option maxHeartbeats 1000000 in
theorem pm_ratio {σ τ s2 t2 : St} {rA rB : Int} {a b which : Int} (h : Bth σ τ) (h5 : τ = t2 ∧ rA = fRatio (τ 1 0) (τ 4 0) (τ 5) (τ 6) (τ 7) (τ 8) a b which) (h6 : (rB = fRatio (σ 0 0) (σ 4 0) (mA σ) (mV σ) (mB σ) (mW σ) a b which ∧ eqM s2 σ)) : rA = rB ∧ Bth s2 t2 := by
  obtain ⟨e0, e1, e2, e3, e4, ⟨ea, ev, eb, ew, ee⟩, e13, e14⟩ := h.2
  obtain ⟨q5, e5⟩ := h5
  obtain ⟨e6, e⟩ := h6
  subst q5
  refine ⟨?_, h.q e⟩
  rw [e5, e6]
  simp only [e0, e1, e3, e4, ea, ev, eb, ew, ee, e13, e14]
set_option maxHeartbeats 1000000 in
theorem pm_off {σ τ s2 t2 : St} {rA rB : Int} {k which : Int} (h : Bth σ τ) (h5 : τ = t2 ∧ rA = fOff (τ 4 0) (τ 5) (τ 6) (τ 7) (τ 8) k which) (h6 : (rB = fOff (σ 4 0) (mA σ) (mV σ) (mB σ) (mW σ) k which ∧ eqM s2 σ)) : rA = rB ∧ Bth s2 t2 := by
  obtain ⟨e0, e1, e2, e3, e4, ⟨ea, ev, eb, ew, ee⟩, e13, e14⟩ := h.2
  obtain ⟨q5, e5⟩ := h5
  obtain ⟨e6, e⟩ := h6
  subst q5
  refine ⟨?_, h.q e⟩
  rw [e5, e6]
  simp only [e0, e1, e3, e4, ea, ev, eb, ew, ee, e13, e14]
set_option maxHeartbeats 1000000 in
theorem pm_ring {σ τ s2 t2 : St} {rA rB : Int} {k : Int} (h : Bth σ τ) (h5 : τ = t2 ∧ rA = fRing (τ 4 0) (τ 5) (τ 6) (τ 7) (τ 8) k) (h6 : (rB = fRing (σ 4 0) (mA σ) (mV σ) (mB σ) (mW σ) k ∧ eqM s2 σ)) : rA = rB ∧ Bth s2 t2 := by
  obtain ⟨e0, e1, e2, e3, e4, ⟨ea, ev, eb, ew, ee⟩, e13, e14⟩ := h.2
  obtain ⟨q5, e5⟩ := h5
  obtain ⟨e6, e⟩ := h6
  subst q5
  refine ⟨?_, h.q e⟩
  rw [e5, e6]
  simp only [e0, e1, e3, e4, ea, ev, eb, ew, ee, e13, e14]
set_option maxHeartbeats 1000000 in
theorem pm_nearest {σ τ s2 t2 : St} {rA rB : Int} {s_ : Int} (h : Bth σ τ) (h5 : τ = t2 ∧ rA = fNear (τ 1 0) (τ 0 0) (τ 4 0) (τ 5) (τ 6) (τ 7) (τ 8) (τ 16 0) (τ 15) s_) (h6 : (rB = fNear (σ 0 0) (σ 3 0) (σ 4 0) (mA σ) (mV σ) (mB σ) (mW σ) (σ 13 0) (σ 14) s_ ∧ eqM s2 σ)) : rA = rB ∧ Bth s2 t2 := by
  obtain ⟨e0, e1, e2, e3, e4, ⟨ea, ev, eb, ew, ee⟩, e13, e14⟩ := h.2
  obtain ⟨q5, e5⟩ := h5
  obtain ⟨e6, e⟩ := h6
  subst q5
  refine ⟨?_, h.q e⟩
  rw [e5, e6]
  simp only [e0, e1, e3, e4, ea, ev, eb, ew, ee, e13, e14]
set_option maxHeartbeats 1000000 in
theorem pm_away {σ τ s2 t2 : St} {rA rB : Int} {s_ which : Int} (h : Bth σ τ) (h5 : τ = t2 ∧ rA = fAway (τ 1 0) (τ 0 0) (τ 4 0) (τ 5) (τ 6) (τ 7) (τ 8) (τ 16 0) (τ 15) s_ which) (h6 : (rB = fAway (σ 0 0) (σ 3 0) (σ 4 0) (mA σ) (mV σ) (mB σ) (mW σ) (σ 13 0) (σ 14) s_ which ∧ eqM s2 σ)) : rA = rB ∧ Bth s2 t2 := by
  obtain ⟨e0, e1, e2, e3, e4, ⟨ea, ev, eb, ew, ee⟩, e13, e14⟩ := h.2
  obtain ⟨q5, e5⟩ := h5
  obtain ⟨e6, e⟩ := h6
  subst q5
  refine ⟨?_, h.q e⟩
  rw [e5, e6]
  simp only [e0, e1, e3, e4, ea, ev, eb, ew, ee, e13, e14]
set_option maxHeartbeats 1000000 in
theorem pm_clock {σ τ s2 t2 : St} {rA rB : Int} {s_ what : Int} (h : Bth σ τ) (h5 : τ = t2 ∧ rA = fClock (τ 1 0) (τ 2) (τ 0 0) (τ 4 0) (τ 5) (τ 6) (τ 7) (τ 8) s_ what) (h6 : (rB = fClock (σ 0 0) (σ 1) (σ 3 0) (σ 4 0) (mA σ) (mV σ) (mB σ) (mW σ) s_ what ∧ eqM s2 σ)) : rA = rB ∧ Bth s2 t2 := by
  obtain ⟨e0, e1, e2, e3, e4, ⟨ea, ev, eb, ew, ee⟩, e13, e14⟩ := h.2
  obtain ⟨q5, e5⟩ := h5
  obtain ⟨e6, e⟩ := h6
  subst q5
  refine ⟨?_, h.q e⟩
  rw [e5, e6]
  simp only [e0, e1, e3, e4, ea, ev, eb, ew, ee, e13, e14]
set_option maxHeartbeats 1000000 in
theorem pm_whole {σ τ s2 t2 : St} {rA rB : Int} (h : Bth σ τ) (h5 : τ = t2 ∧ rA = fWhole (τ 1 0) (τ 2) (τ 0 0) (τ 4 0) (τ 5) (τ 6) (τ 7) (τ 8)) (h6 : (rB = fWhole (σ 0 0) (σ 1) (σ 3 0) (σ 4 0) (mA σ) (mV σ) (mB σ) (mW σ) ∧ eqM s2 σ)) : rA = rB ∧ Bth s2 t2 := by
  obtain ⟨e0, e1, e2, e3, e4, ⟨ea, ev, eb, ew, ee⟩, e13, e14⟩ := h.2
  obtain ⟨q5, e5⟩ := h5
  obtain ⟨e6, e⟩ := h6
  subst q5
  refine ⟨?_, h.q e⟩
  rw [e5, e6]
  simp only [e0, e1, e3, e4, ea, ev, eb, ew, ee, e13, e14]
set_option maxHeartbeats 1000000 in
theorem pm_where {σ τ s2 t2 : St} {rA rB : Int} {t what : Int} (h : Bth σ τ) (h5 : τ = t2 ∧ rA = fWhere (τ 1 0) (τ 2) (τ 0 0) (τ 4 0) (τ 5) (τ 6) (τ 7) (τ 8) t what) (h6 : (rB = fWhere (σ 0 0) (σ 1) (σ 3 0) (σ 4 0) (mA σ) (mV σ) (mB σ) (mW σ) t what ∧ eqM s2 σ)) : rA = rB ∧ Bth s2 t2 := by
  obtain ⟨e0, e1, e2, e3, e4, ⟨ea, ev, eb, ew, ee⟩, e13, e14⟩ := h.2
  obtain ⟨q5, e5⟩ := h5
  obtain ⟨e6, e⟩ := h6
  subst q5
  refine ⟨?_, h.q e⟩
  rw [e5, e6]
  simp only [e0, e1, e3, e4, ea, ev, eb, ew, ee, e13, e14]
set_option maxHeartbeats 1000000 in
theorem pm_ticks {σ τ s2 t2 : St} {rA rB : Int} {v : Int} (h : Bth σ τ) (h5 : τ = t2 ∧ rA = (if 0 ≤ v ∧ v ≤ 19 then tk v else -1)) (h6 : σ = s2 ∧ rB = (if 0 ≤ v ∧ v ≤ 19 then tk v else -1)) : rA = rB ∧ Bth s2 t2 := by
  obtain ⟨e0, e1, e2, e3, e4, ⟨ea, ev, eb, ew, ee⟩, e13, e14⟩ := h.2
  obtain ⟨q5, e5⟩ := h5
  obtain ⟨q6, e6⟩ := h6
  subst q5
  subst q6
  exact ⟨by rw [e5, e6], h⟩
set_option maxHeartbeats 1000000 in
theorem pm_markAt {σ τ s2 t2 : St} {rA rB : Int} {k : Int} (h : Bth σ τ) (h5 : τ = t2 ∧ rA = (if 0 ≤ k ∧ k ≤ 15 then (if k < τ 16 0 then τ 15 k else -9) else -2)) (h6 : σ = s2 ∧ rB = (if 0 ≤ k ∧ k ≤ 15 then (if k < σ 13 0 then σ 14 k else -9) else -2)) : rA = rB ∧ Bth s2 t2 := by
  obtain ⟨e0, e1, e2, e3, e4, ⟨ea, ev, eb, ew, ee⟩, e13, e14⟩ := h.2
  obtain ⟨q5, e5⟩ := h5
  obtain ⟨q6, e6⟩ := h6
  subst q5
  subst q6
  exact ⟨by rw [e5, e6, e13, e14], h⟩
set_option maxHeartbeats 1000000 in
theorem pm_ofSection {σ τ s2 t2 : St} {rA rB : Int} {s_ what : Int} (h : Bth σ τ) (h5 : τ = t2 ∧ rA = fSec (τ 1 0) (τ 2) (τ 3) (τ 4 0) (τ 5) (τ 6) (τ 7) (τ 8) (τ 16 0) (τ 15) s_ what) (h6 : (rB = fSec (σ 0 0) (σ 1) (σ 2) (σ 4 0) (mA σ) (mV σ) (mB σ) (mW σ) (σ 13 0) (σ 14) s_ what ∧ eqM s2 σ)) : rA = rB ∧ Bth s2 t2 := by
  obtain ⟨e0, e1, e2, e3, e4, ⟨ea, ev, eb, ew, ee⟩, e13, e14⟩ := h.2
  obtain ⟨q5, e5⟩ := h5
  obtain ⟨e6, e⟩ := h6
  subst q5
  refine ⟨?_, h.q e⟩
  rw [e5, e6]
  simp only [e0, e1, e3, e4, ea, ev, eb, ew, ee, e13, e14]
  exact (fSec_pn (fun s p q => e2 s p q) _ _).symm
set_option maxHeartbeats 1000000 in
theorem pm_many {σ τ s2 t2 : St} {rA rB : Int} {what : Int} (h : Bth σ τ) (h5 : τ = t2 ∧ rA = fMany (τ 1 0) (τ 3) (τ 0 0) (τ 4 0) (τ 5) (τ 6) (τ 7) (τ 8) (τ 16 0) (τ 15) what) (h6 : (rB = fMany (σ 0 0) (σ 2) (σ 3 0) (σ 4 0) (mA σ) (mV σ) (mB σ) (mW σ) (σ 13 0) (σ 14) what ∧ eqM s2 σ)) : rA = rB ∧ Bth s2 t2 := by
  obtain ⟨e0, e1, e2, e3, e4, ⟨ea, ev, eb, ew, ee⟩, e13, e14⟩ := h.2
  obtain ⟨q5, e5⟩ := h5
  obtain ⟨e6, e⟩ := h6
  subst q5
  refine ⟨?_, h.q e⟩
  rw [e5, e6]
  simp only [e0, e1, e3, e4, ea, ev, eb, ew, ee, e13, e14]
  exact (fMany_pn h.1.1.1.1 (fun s p q => e2 s p q) _).symm
set_option maxHeartbeats 1000000 in
theorem pm_within {σ τ s2 t2 : St} {rA rB : Int} {t : Int} (h : Bth σ τ) (h5 : τ = t2 ∧ (fWithin (τ 1 0) (τ 2) (τ 4 0) (τ 5) (τ 6) (τ 7) (τ 8) t rA)) (h6 : (fWithin (σ 0 0) (σ 1) (σ 4 0) (mA σ) (mV σ) (mB σ) (mW σ) t rB ∧ eqM s2 σ)) : rA = rB ∧ Bth s2 t2 := by
  obtain ⟨e0, e1, e2, e3, e4, ⟨ea, ev, eb, ew, ee⟩, e13, e14⟩ := h.2
  obtain ⟨q5, e5⟩ := h5
  obtain ⟨e6, e⟩ := h6
  subst q5
  simp only [e0, e1, e3, e4, ea, ev, eb, ew, ee, e13, e14] at e6
  exact ⟨fWithin_one _ _ _ _ _ _ _ e5 e6, h.q e⟩
set_option maxHeartbeats 1000000 in
theorem pm_pivot {σ τ s2 t2 : St} {rA rB : Int} {s_ q_ k : Int} (h : Bth σ τ) (h5 : τ = t2 ∧ (fPivot (τ 1 0) (τ 0 0) (τ 4 0) (τ 5) (τ 6) (τ 7) (τ 8) s_ q_ k rA)) (h6 : (fPivot (σ 0 0) (σ 3 0) (σ 4 0) (mA σ) (mV σ) (mB σ) (mW σ) s_ q_ k rB ∧ eqM s2 σ)) : rA = rB ∧ Bth s2 t2 := by
  obtain ⟨e0, e1, e2, e3, e4, ⟨ea, ev, eb, ew, ee⟩, e13, e14⟩ := h.2
  obtain ⟨q5, e5⟩ := h5
  obtain ⟨e6, e⟩ := h6
  subst q5
  simp only [e0, e1, e3, e4, ea, ev, eb, ew, ee, e13, e14] at e6
  exact ⟨fPivot_one e5 e6, h.q e⟩
set_option maxHeartbeats 1000000 in
theorem pm_harm {σ τ s2 t2 : St} {rA rB : Int} (h : Bth σ τ) (h5 : (fHarm (τ 1 0) (τ 3) (τ 4 0) (τ 5) (τ 6) (τ 7) (τ 8) (τ 9) (τ 16 0) (τ 15) rA ∧ (∀ F, (F < 17 ∨ 25 < F) → t2 F = τ F) ∧ BI t2)) (h6 : (fHarm (σ 0 0) (σ 2) (σ 4 0) (mA σ) (mV σ) (mB σ) (mW σ) (mE σ) (σ 13 0) (σ 14) rB ∧ eqM s2 σ)) : rA = rB ∧ Bth s2 t2 := by
  obtain ⟨e0, e1, e2, e3, e4, ⟨ea, ev, eb, ew, ee⟩, e13, e14⟩ := h.2
  obtain ⟨e5, hn, hb⟩ := h5
  obtain ⟨e6, e⟩ := h6
  simp only [e0, e1, e3, e4, ea, ev, eb, ew, ee, e13, e14] at e6
  exact ⟨fHarm_one (fun s p q => (e2 s p q).symm) e5 e6, h.best e hn hb⟩
set_option maxHeartbeats 1000000 in
theorem pm_play {σ τ s2 t2 : St} {rA rB : Int} {s_ : Int} (h : Bth σ τ) (h5 : (fPlay (τ 1 0) (τ 3) (τ 4 0) (τ 5) (τ 6) (τ 7) (τ 8) (τ 9) (τ 16 0) (τ 15) s_ rA ∧ (∀ F, (F < 17 ∨ 25 < F) → t2 F = τ F) ∧ BI t2)) (h6 : (fPlay (σ 0 0) (σ 2) (σ 4 0) (mA σ) (mV σ) (mB σ) (mW σ) (mE σ) (σ 13 0) (σ 14) s_ rB ∧ eqM s2 σ)) : rA = rB ∧ Bth s2 t2 := by
  obtain ⟨e0, e1, e2, e3, e4, ⟨ea, ev, eb, ew, ee⟩, e13, e14⟩ := h.2
  obtain ⟨e5, hn, hb⟩ := h5
  obtain ⟨e6, e⟩ := h6
  simp only [e0, e1, e3, e4, ea, ev, eb, ew, ee, e13, e14] at e6
  exact ⟨fPlay_one (fun s p q => (e2 s p q).symm) e5 e6, h.best e hn hb⟩
set_option maxHeartbeats 1000000 in
theorem pm_drift {σ τ s2 t2 : St} {rA rB : Int} {k : Int} (h : Bth σ τ) (h5 : (fDrift (τ 1 0) (τ 3) (τ 4 0) (τ 5) (τ 6) (τ 7) (τ 8) (τ 9) (τ 16 0) (τ 15) k rA ∧ (∀ F, (F < 17 ∨ 25 < F) → t2 F = τ F) ∧ BI t2)) (h6 : (fDrift (σ 0 0) (σ 2) (σ 4 0) (mA σ) (mV σ) (mB σ) (mW σ) (mE σ) (σ 13 0) (σ 14) k rB ∧ eqM s2 σ)) : rA = rB ∧ Bth s2 t2 := by
  obtain ⟨e0, e1, e2, e3, e4, ⟨ea, ev, eb, ew, ee⟩, e13, e14⟩ := h.2
  obtain ⟨e5, hn, hb⟩ := h5
  obtain ⟨e6, e⟩ := h6
  simp only [e0, e1, e3, e4, ea, ev, eb, ew, ee, e13, e14] at e6
  exact ⟨fDrift_one (fun s p q => (e2 s p q).symm) (fun k p q => ⟨(h.1.1.tie p q).1, (h.1.1.tie p q).2.2.1⟩) e5 e6, h.best e hn hb⟩
set_option maxHeartbeats 1000000 in
theorem pm_pivots {σ τ s2 t2 : St} {rA rB : Int} {pp qq ss k : Int} (h : Bth σ τ) (h5 : (fPivots pp qq ss k rA ∧ (∀ F, F < 26 → t2 F = τ F) ∧ PIv t2)) (h6 : (fPivots pp qq ss k rB ∧ (∀ F, F ≠ 17 → F ≠ 18 → s2 F = σ F))) : rA = rB ∧ Bth s2 t2 := by
  obtain ⟨e0, e1, e2, e3, e4, ⟨ea, ev, eb, ew, ee⟩, e13, e14⟩ := h.2
  obtain ⟨e5, hn, hb⟩ := h5
  obtain ⟨e6, e⟩ := h6
  exact ⟨fPivots_one e5 e6, h.pvs e hn hb⟩
set_option maxHeartbeats 1000000 in
theorem pm_section {σ τ s2 t2 : St} {rA rB : Int} {beats : Int} (h : Bth σ τ) (h5 : ((¬ (1 ≤ beats ∧ beats ≤ 99) ∧ rA = -2 ∧ t2 = τ) ∨ ((1 ≤ beats ∧ beats ≤ 99) ∧ τ 1 0 = 7 ∧ rA = -4 ∧ t2 = τ) ∨ ((1 ≤ beats ∧ beats ≤ 99) ∧ ¬ τ 1 0 = 7 ∧ rA = τ 1 0 ∧ (∀ F, (F < 10 ∨ 14 < F) → F ≠ 19 → t2 F = (up (up (up τ 2 (τ 1 0) beats) 3 (τ 1 0) (-9)) 1 0 (τ 1 0 + 1)) F) ∧ t2 19 0 = 0 ∧ JI t2 ∧ WfC t2))) (h6 : ((¬ (1 ≤ beats ∧ beats ≤ 99) ∧ rB = -2 ∧ s2 = σ) ∨ ((1 ≤ beats ∧ beats ≤ 99) ∧ σ 0 0 = 7 ∧ rB = -4 ∧ s2 = σ) ∨ ((1 ≤ beats ∧ beats ≤ 99) ∧ ¬ σ 0 0 = 7 ∧ rB = σ 0 0 ∧ s2 = up (up (up σ 1 (σ 0 0) beats) 2 (σ 0 0) (-9)) 0 0 (σ 0 0 + 1)))) : rA = rB ∧ Bth s2 t2 := by
  obtain ⟨e0, e1, e2, e3, e4, ⟨ea, ev, eb, ew, ee⟩, e13, e14⟩ := h.2
  simp only [e0, e3, e4, ea, ev, eb, ew, ee, e13, e14] at h6
  rcases h5 with ⟨c1, r1, q1⟩ | ⟨c1, d1, r1, q1⟩ | ⟨c1, d1, r1, hn, h19, hj, hw⟩ <;> rcases h6 with ⟨c2, r2, q2⟩ | ⟨c2, d2, r2, q2⟩ | ⟨c2, d2, r2, q2⟩ <;> first | exact absurd c1 c2 | exact absurd c2 c1 | exact absurd d1 d2 | exact absurd d2 d1 | (subst q1; subst q2; exact ⟨by rw [r1, r2], h⟩) | skip
  subst q2
  refine ⟨by rw [r1, r2], ⟨hw, hj, BI_0 h19, PIv.same (fun F hF => (hn F (by omega) (by omega)).trans (by rw [up_o _ _ _ (by omega), up_o _ _ _ (by omega), up_o _ _ _ (by omega)])) h.1.2.2.2⟩, ?_, ?_, ?_, ?_, ?_, ⟨?_, ?_, ?_, ?_, ?_⟩, ?_, ?_⟩
  · rw [hn 1 (by omega) (by omega), up_s, up_s]
  · rw [hn 2 (by omega) (by omega)]
    funext i
    show (if i = τ 1 0 then beats else σ 1 i) = (if i = τ 1 0 then beats else τ 2 i)
    rw [e1]
  · intro s p q
    rw [hn 1 (by omega) (by omega), up_s] at q
    rw [hn 3 (by omega) (by omega)]
    show (if s = τ 1 0 then -9 else σ 2 s) = (if s = τ 1 0 then -9 else τ 3 s)
    by_cases c : s = τ 1 0
    · rw [if_pos c, if_pos c]
    · rw [if_neg c, if_neg c]
      exact e2 s p (by omega)
  · rw [hn 0 (by omega) (by omega)]; exact e3
  · rw [hn 4 (by omega) (by omega)]; exact e4
  · rw [hn 5 (by omega) (by omega)]; exact ea
  · rw [hn 6 (by omega) (by omega)]; exact ev
  · rw [hn 7 (by omega) (by omega)]; exact eb
  · rw [hn 8 (by omega) (by omega)]; exact ew
  · rw [hn 9 (by omega) (by omega)]; exact ee
  · rw [hn 16 (by omega) (by omega)]; exact e13
  · rw [hn 15 (by omega) (by omega)]; exact e14
set_option maxHeartbeats 1000000 in
theorem pm_beats {σ τ s2 t2 : St} {rA rB : Int} {s_ v : Int} (h : Bth σ τ) (h5 : ((¬ (0 ≤ s_ ∧ s_ < τ 1 0) ∧ rA = -1 ∧ t2 = τ) ∨ ((0 ≤ s_ ∧ s_ < τ 1 0) ∧ ¬ (1 ≤ v ∧ v ≤ 99) ∧ rA = -2 ∧ t2 = τ) ∨ ((0 ≤ s_ ∧ s_ < τ 1 0) ∧ (1 ≤ v ∧ v ≤ 99) ∧ rA = τ 2 s_ ∧ t2 = up τ 2 s_ v))) (h6 : ((¬ (0 ≤ s_ ∧ s_ < σ 0 0) ∧ rB = -1 ∧ s2 = σ) ∨ ((0 ≤ s_ ∧ s_ < σ 0 0) ∧ ¬ (1 ≤ v ∧ v ≤ 99) ∧ rB = -2 ∧ s2 = σ) ∨ ((0 ≤ s_ ∧ s_ < σ 0 0) ∧ (1 ≤ v ∧ v ≤ 99) ∧ rB = σ 1 s_ ∧ s2 = up σ 1 s_ v))) : rA = rB ∧ Bth s2 t2 := by
  obtain ⟨e0, e1, e2, e3, e4, ⟨ea, ev, eb, ew, ee⟩, e13, e14⟩ := h.2
  simp only [e0] at h6
  rcases h5 with ⟨c1, r1, q1⟩ | ⟨c1, d1, r1, q1⟩ | ⟨c1, d1, r1, q1⟩ <;> rcases h6 with ⟨c2, r2, q2⟩ | ⟨c2, d2, r2, q2⟩ | ⟨c2, d2, r2, q2⟩ <;> first | exact absurd c1 c2 | exact absurd c2 c1 | exact absurd d1 d2 | exact absurd d2 d1 | (subst q1; subst q2; exact ⟨by rw [r1, r2], h⟩) | skip
  subst q1
  subst q2
  refine ⟨by rw [r1, r2, e1], ⟨wf_bts h.1.1 d1, JI.same (fun F hF => up_o _ _ _ (by omega)) h.1.2.1, BI.same (fun F hF => up_o _ _ _ (by omega)) h.1.2.2.1, PIv.same (fun F hF => up_o _ _ _ (by omega)) h.1.2.2.2⟩, e0, ?_, e2, e3, e4, ⟨ea, ev, eb, ew, ee⟩, e13, e14⟩
  funext i
  show (if i = s_ then v else σ 1 i) = (if i = s_ then v else τ 2 i)
  rw [e1]
set_option maxHeartbeats 1000000 in
theorem pm_start {σ τ s2 t2 : St} {rA rB : Int} {v : Int} (h : Bth σ τ) (h5 : ((¬ (20 ≤ v ∧ v ≤ 400) ∧ rA = -2 ∧ t2 = τ) ∨ ((20 ≤ v ∧ v ≤ 400) ∧ rA = τ 0 0 ∧ t2 = up τ 0 0 v))) (h6 : ((¬ (20 ≤ v ∧ v ≤ 400) ∧ rB = -2 ∧ s2 = σ) ∨ ((20 ≤ v ∧ v ≤ 400) ∧ rB = σ 3 0 ∧ s2 = up σ 3 0 v))) : rA = rB ∧ Bth s2 t2 := by
  obtain ⟨e0, e1, e2, e3, e4, ⟨ea, ev, eb, ew, ee⟩, e13, e14⟩ := h.2
  rcases h5 with ⟨c1, r1, q1⟩ | ⟨c1, r1, q1⟩ <;> rcases h6 with ⟨c2, r2, q2⟩ | ⟨c2, r2, q2⟩ <;> first | exact absurd c1 c2 | exact absurd c2 c1 | skip
  · subst q1; subst q2; exact ⟨by rw [r1, r2], h⟩
  subst q1
  subst q2
  refine ⟨by rw [r1, r2, e3], ⟨wf_st h.1.1 c1, JI.same (fun F hF => up_o _ _ _ (by omega)) h.1.2.1, BI.same (fun F hF => up_o _ _ _ (by omega)) h.1.2.2.1, PIv.same (fun F hF => up_o _ _ _ (by omega)) h.1.2.2.2⟩, e0, e1, e2, ?_, e4, ⟨ea, ev, eb, ew, ee⟩, e13, e14⟩
  rw [up_s, up_s]
set_option maxHeartbeats 1000000 in
theorem pm_pin {σ τ s2 t2 : St} {rA rB : Int} {s_ m_ : Int} (h : Bth σ τ) (h5 : ((¬ (0 ≤ s_ ∧ s_ < τ 1 0) ∧ rA = -1 ∧ t2 = τ) ∨ ((0 ≤ s_ ∧ s_ < τ 1 0) ∧ ¬ (m_ = -9 ∨ (20 ≤ m_ ∧ m_ ≤ 400)) ∧ rA = -2 ∧ t2 = τ) ∨ ((0 ≤ s_ ∧ s_ < τ 1 0) ∧ (m_ = -9 ∨ (20 ≤ m_ ∧ m_ ≤ 400)) ∧ rA = τ 3 s_ ∧ t2 = up (up τ 3 s_ m_) 19 0 0))) (h6 : ((¬ (0 ≤ s_ ∧ s_ < σ 0 0) ∧ rB = -1 ∧ s2 = σ) ∨ ((0 ≤ s_ ∧ s_ < σ 0 0) ∧ ¬ (m_ = -9 ∨ (20 ≤ m_ ∧ m_ ≤ 400)) ∧ rB = -2 ∧ s2 = σ) ∨ ((0 ≤ s_ ∧ s_ < σ 0 0) ∧ (m_ = -9 ∨ (20 ≤ m_ ∧ m_ ≤ 400)) ∧ rB = σ 2 s_ ∧ s2 = up σ 2 s_ m_))) : rA = rB ∧ Bth s2 t2 := by
  obtain ⟨e0, e1, e2, e3, e4, ⟨ea, ev, eb, ew, ee⟩, e13, e14⟩ := h.2
  simp only [e0] at h6
  rcases h5 with ⟨c1, r1, q1⟩ | ⟨c1, d1, r1, q1⟩ | ⟨c1, d1, r1, q1⟩ <;> rcases h6 with ⟨c2, r2, q2⟩ | ⟨c2, d2, r2, q2⟩ | ⟨c2, d2, r2, q2⟩ <;> first | exact absurd c1 c2 | exact absurd c2 c1 | exact absurd d1 d2 | exact absurd d2 d1 | (subst q1; subst q2; exact ⟨by rw [r1, r2], h⟩) | skip
  subst q1
  subst q2
  refine ⟨by rw [r1, r2, e2 s_ c1.1 c1.2], ⟨eqC.wf (fun F hF => up_o _ _ _ (by omega)) (wf_pin h.1.1 d1), JI.same (fun F hF => by rw [up_o _ _ _ (by omega), up_o _ _ _ (by omega)]) h.1.2.1, BI_0 (up_s _ _ _ _), PIv.same (fun F hF => by rw [up_o _ _ _ (by omega), up_o _ _ _ (by omega)]) h.1.2.2.2⟩, e0, e1, ?_, e3, e4, ⟨ea, ev, eb, ew, ee⟩, e13, e14⟩
  intro s p q
  show (if s = s_ then m_ else σ 2 s) = (if s = s_ then m_ else τ 3 s)
  by_cases c : s = s_
  · rw [if_pos c, if_pos c]
  · rw [if_neg c, if_neg c]
    exact e2 s p q
set_option maxHeartbeats 1000000 in
theorem pm_ear {σ τ s2 t2 : St} {rA rB : Int} {k v : Int} (h : Bth σ τ) (h5 : ((¬ (0 ≤ k ∧ k < τ 4 0) ∧ rA = -1 ∧ t2 = τ) ∨ ((0 ≤ k ∧ k < τ 4 0) ∧ ¬ (0 ≤ v ∧ v ≤ 9) ∧ rA = -2 ∧ t2 = τ) ∨ ((0 ≤ k ∧ k < τ 4 0) ∧ (0 ≤ v ∧ v ≤ 9) ∧ rA = τ 9 k ∧ t2 = up (up τ 9 k v) 19 0 0))) (h6 : ((¬ (0 ≤ k ∧ k < σ 4 0) ∧ rB = -1 ∧ s2 = σ) ∨ ((0 ≤ k ∧ k < σ 4 0) ∧ ¬ (0 ≤ v ∧ v ≤ 9) ∧ rB = -2 ∧ s2 = σ) ∨ ((0 ≤ k ∧ k < σ 4 0) ∧ (0 ≤ v ∧ v ≤ 9) ∧ rB = σ 5 (5 * k + 4) ∧ s2 = up σ 5 (5 * k + 4) v))) : rA = rB ∧ Bth s2 t2 := by
  obtain ⟨e0, e1, e2, e3, e4, ⟨ea, ev, eb, ew, ee⟩, e13, e14⟩ := h.2
  simp only [e4] at h6
  rcases h5 with ⟨c1, r1, q1⟩ | ⟨c1, d1, r1, q1⟩ | ⟨c1, d1, r1, q1⟩ <;> rcases h6 with ⟨c2, r2, q2⟩ | ⟨c2, d2, r2, q2⟩ | ⟨c2, d2, r2, q2⟩ <;> first | exact absurd c1 c2 | exact absurd c2 c1 | exact absurd d1 d2 | exact absurd d2 d1 | (subst q1; subst q2; exact ⟨by rw [r1, r2], h⟩) | skip
  subst q1
  subst q2
  have er : σ 5 (5 * k + 4) = τ 9 k := congrFun ee k
  refine ⟨by rw [r1, r2, er], ⟨eqC.wf (fun F hF => up_o _ _ _ (by omega)) (wf_ear h.1.1 d1), JI.same (fun F hF => by rw [up_o _ _ _ (by omega), up_o _ _ _ (by omega)]) h.1.2.1, BI_0 (up_s _ _ _ _), PIv.same (fun F hF => by rw [up_o _ _ _ (by omega), up_o _ _ _ (by omega)]) h.1.2.2.2⟩, e0, e1, e2, e3, e4, ⟨?_, ?_, ?_, ?_, ?_⟩, e13, e14⟩
  · refine Eq.trans (funext fun j => ?_) ea
    exact up_n _ _ _ (by omega)
  · refine Eq.trans (funext fun j => ?_) ev
    exact up_n _ _ _ (by omega)
  · refine Eq.trans (funext fun j => ?_) eb
    exact up_n _ _ _ (by omega)
  · refine Eq.trans (funext fun j => ?_) ew
    exact up_n _ _ _ (by omega)
  · funext j
    have ej : σ 5 (5 * j + 4) = τ 9 j := congrFun ee j
    show (if 5 * j + 4 = 5 * k + 4 then v else σ 5 (5 * j + 4)) = (if j = k then v else τ 9 j)
    by_cases c : j = k
    · rw [if_pos (show 5 * j + 4 = 5 * k + 4 by omega), if_pos c]
    · rw [if_neg (show ¬ 5 * j + 4 = 5 * k + 4 by omega), if_neg c, ej]
set_option maxHeartbeats 1000000 in
theorem pm_clear {σ τ s2 t2 : St} {rA rB : Int} (h : Bth σ τ) (h5 : (rA = τ 4 0 ∧ (∀ F, (F < 10 ∨ 14 < F) → F ≠ 19 → t2 F = (up (up τ 1 0 0) 4 0 0) F) ∧ t2 19 0 = 0 ∧ JI t2 ∧ WfC t2)) (h6 : (rB = σ 4 0 ∧ s2 = up (up σ 4 0 0) 0 0 0)) : rA = rB ∧ Bth s2 t2 := by
  obtain ⟨e0, e1, e2, e3, e4, ⟨ea, ev, eb, ew, ee⟩, e13, e14⟩ := h.2
  obtain ⟨r1, hn, h19, hj, hw⟩ := h5
  obtain ⟨r2, q2⟩ := h6
  subst q2
  refine ⟨by rw [r1, r2, e4], ⟨hw, hj, BI_0 h19, PIv.same (fun F hF => (hn F (by omega) (by omega)).trans (by rw [up_o _ _ _ (by omega), up_o _ _ _ (by omega)])) h.1.2.2.2⟩, ?_, ?_, ?_, ?_, ?_, ⟨?_, ?_, ?_, ?_, ?_⟩, ?_, ?_⟩
  · rw [hn 1 (by omega) (by omega), up_s, up_o _ _ _ (by omega), up_s]
  · rw [hn 2 (by omega) (by omega)]; exact e1
  · intro s p q
    rw [hn 1 (by omega) (by omega), up_o _ _ _ (by omega), up_s] at q
    omega
  · rw [hn 0 (by omega) (by omega)]; exact e3
  · rw [hn 4 (by omega) (by omega), up_s, up_o _ _ _ (by omega), up_s]
  · rw [hn 5 (by omega) (by omega)]; exact ea
  · rw [hn 6 (by omega) (by omega)]; exact ev
  · rw [hn 7 (by omega) (by omega)]; exact eb
  · rw [hn 8 (by omega) (by omega)]; exact ew
  · rw [hn 9 (by omega) (by omega)]; exact ee
  · rw [hn 16 (by omega) (by omega)]; exact e13
  · rw [hn 15 (by omega) (by omega)]; exact e14
set_option maxHeartbeats 1000000 in
theorem pm_tie {σ τ s2 t2 : St} {rA rB : Int} {a v b w ear : Int} (h : Bth σ τ) (h5 : ((¬ ((0 ≤ a ∧ a < τ 1 0) ∧ (0 ≤ b ∧ b < τ 1 0) ∧ ¬ a = b ∧ (0 ≤ v ∧ v ≤ 19) ∧ (0 ≤ w ∧ w ≤ 19)) ∧ rA = -1 ∧ t2 = τ) ∨ (((0 ≤ a ∧ a < τ 1 0) ∧ (0 ≤ b ∧ b < τ 1 0) ∧ ¬ a = b ∧ (0 ≤ v ∧ v ≤ 19) ∧ (0 ≤ w ∧ w ≤ 19)) ∧ ¬ (0 ≤ ear ∧ ear ≤ 9) ∧ rA = -2 ∧ t2 = τ) ∨ (((0 ≤ a ∧ a < τ 1 0) ∧ (0 ≤ b ∧ b < τ 1 0) ∧ ¬ a = b ∧ (0 ≤ v ∧ v ≤ 19) ∧ (0 ≤ w ∧ w ≤ 19)) ∧ (0 ≤ ear ∧ ear ≤ 9) ∧ τ 4 0 = 12 ∧ rA = -4 ∧ t2 = τ) ∨ (((0 ≤ a ∧ a < τ 1 0) ∧ (0 ≤ b ∧ b < τ 1 0) ∧ ¬ a = b ∧ (0 ≤ v ∧ v ≤ 19) ∧ (0 ≤ w ∧ w ≤ 19)) ∧ (0 ≤ ear ∧ ear ≤ 9) ∧ ¬ τ 4 0 = 12 ∧ rA = τ 4 0 ∧ (∀ F, (F < 10 ∨ 14 < F) → F ≠ 19 → t2 F = (up (up (up (up (up (up τ 5 (τ 4 0) a) 6 (τ 4 0) v) 7 (τ 4 0) b) 8 (τ 4 0) w) 9 (τ 4 0) ear) 4 0 (τ 4 0 + 1)) F) ∧ t2 19 0 = 0 ∧ JI t2 ∧ WfC t2))) (h6 : ((¬ ((0 ≤ a ∧ a < σ 0 0) ∧ (0 ≤ b ∧ b < σ 0 0) ∧ ¬ a = b ∧ (0 ≤ v ∧ v ≤ 19) ∧ (0 ≤ w ∧ w ≤ 19)) ∧ rB = -1 ∧ s2 = σ) ∨ (((0 ≤ a ∧ a < σ 0 0) ∧ (0 ≤ b ∧ b < σ 0 0) ∧ ¬ a = b ∧ (0 ≤ v ∧ v ≤ 19) ∧ (0 ≤ w ∧ w ≤ 19)) ∧ ¬ (0 ≤ ear ∧ ear ≤ 9) ∧ rB = -2 ∧ s2 = σ) ∨ (((0 ≤ a ∧ a < σ 0 0) ∧ (0 ≤ b ∧ b < σ 0 0) ∧ ¬ a = b ∧ (0 ≤ v ∧ v ≤ 19) ∧ (0 ≤ w ∧ w ≤ 19)) ∧ (0 ≤ ear ∧ ear ≤ 9) ∧ σ 4 0 = 12 ∧ rB = -4 ∧ s2 = σ) ∨ (((0 ≤ a ∧ a < σ 0 0) ∧ (0 ≤ b ∧ b < σ 0 0) ∧ ¬ a = b ∧ (0 ≤ v ∧ v ≤ 19) ∧ (0 ≤ w ∧ w ≤ 19)) ∧ (0 ≤ ear ∧ ear ≤ 9) ∧ ¬ σ 4 0 = 12 ∧ rB = σ 4 0 ∧ s2 = up (up (up (up (up (up σ 5 (5 * σ 4 0) a) 5 (5 * σ 4 0 + 1) v) 5 (5 * σ 4 0 + 2) b) 5 (5 * σ 4 0 + 3) w) 5 (5 * σ 4 0 + 4) ear) 4 0 (σ 4 0 + 1)))) : rA = rB ∧ Bth s2 t2 := by
  obtain ⟨e0, e1, e2, e3, e4, ⟨ea, ev, eb, ew, ee⟩, e13, e14⟩ := h.2
  simp only [e0, e4] at h6
  rcases h5 with ⟨c1, r1, q1⟩ | ⟨c1, d1, r1, q1⟩ | ⟨c1, d1, f1, r1, q1⟩ | ⟨c1, d1, f1, r1, hn, h19, hj, hw⟩ <;> rcases h6 with ⟨c2, r2, q2⟩ | ⟨c2, d2, r2, q2⟩ | ⟨c2, d2, f2, r2, q2⟩ | ⟨c2, d2, f2, r2, q2⟩ <;> first | exact absurd c1 c2 | exact absurd c2 c1 | exact absurd d1 d2 | exact absurd d2 d1 | exact absurd f1 f2 | exact absurd f2 f1 | (subst q1; subst q2; exact ⟨by rw [r1, r2], h⟩) | skip
  subst q2
  refine ⟨by rw [r1, r2], ⟨hw, hj, BI_0 h19, PIv.same (fun F hF => (hn F (by omega) (by omega)).trans (by rw [up_o _ _ _ (by omega), up_o _ _ _ (by omega), up_o _ _ _ (by omega), up_o _ _ _ (by omega), up_o _ _ _ (by omega), up_o _ _ _ (by omega)])) h.1.2.2.2⟩, ?_, ?_, ?_, ?_, ?_, ⟨?_, ?_, ?_, ?_, ?_⟩, ?_, ?_⟩
  · rw [hn 1 (by omega) (by omega)]; exact e0
  · rw [hn 2 (by omega) (by omega)]; exact e1
  · intro s p q
    rw [hn 1 (by omega) (by omega)] at q
    rw [hn 3 (by omega) (by omega)]
    exact e2 s p q
  · rw [hn 0 (by omega) (by omega)]; exact e3
  · rw [hn 4 (by omega) (by omega), up_s, up_s]
  · rw [hn 5 (by omega) (by omega)]
    funext j
    have ej : σ 5 (5 * j) = τ 5 j := congrFun ea j
    show up (up (up (up (up σ 5 (5 * τ 4 0) a) 5 (5 * τ 4 0 + 1) v) 5 (5 * τ 4 0 + 2) b) 5 (5 * τ 4 0 + 3) w) 5 (5 * τ 4 0 + 4) ear 5 (5 * j) = (if j = τ 4 0 then a else τ 5 j)
    by_cases c : j = τ 4 0
    · rw [if_pos c, c]
      rw [up_n _ _ _ (show 5 * τ 4 0 ≠ 5 * τ 4 0 + 4 by omega)]; rw [up_n _ _ _ (show 5 * τ 4 0 ≠ 5 * τ 4 0 + 3 by omega)]; rw [up_n _ _ _ (show 5 * τ 4 0 ≠ 5 * τ 4 0 + 2 by omega)]; rw [up_n _ _ _ (show 5 * τ 4 0 ≠ 5 * τ 4 0 + 1 by omega)]; rw [up_s]
    · rw [if_neg c, ← ej]
      rw [up_n _ _ _ (show 5 * j ≠ 5 * τ 4 0 + 4 by omega)]; rw [up_n _ _ _ (show 5 * j ≠ 5 * τ 4 0 + 3 by omega)]; rw [up_n _ _ _ (show 5 * j ≠ 5 * τ 4 0 + 2 by omega)]; rw [up_n _ _ _ (show 5 * j ≠ 5 * τ 4 0 + 1 by omega)]; rw [up_n _ _ _ (show 5 * j ≠ 5 * τ 4 0 by omega)]
  · rw [hn 6 (by omega) (by omega)]
    funext j
    have ej : σ 5 (5 * j + 1) = τ 6 j := congrFun ev j
    show up (up (up (up (up σ 5 (5 * τ 4 0) a) 5 (5 * τ 4 0 + 1) v) 5 (5 * τ 4 0 + 2) b) 5 (5 * τ 4 0 + 3) w) 5 (5 * τ 4 0 + 4) ear 5 (5 * j + 1) = (if j = τ 4 0 then v else τ 6 j)
    by_cases c : j = τ 4 0
    · rw [if_pos c, c]
      rw [up_n _ _ _ (show 5 * τ 4 0 + 1 ≠ 5 * τ 4 0 + 4 by omega)]; rw [up_n _ _ _ (show 5 * τ 4 0 + 1 ≠ 5 * τ 4 0 + 3 by omega)]; rw [up_n _ _ _ (show 5 * τ 4 0 + 1 ≠ 5 * τ 4 0 + 2 by omega)]; rw [up_s]
    · rw [if_neg c, ← ej]
      rw [up_n _ _ _ (show 5 * j + 1 ≠ 5 * τ 4 0 + 4 by omega)]; rw [up_n _ _ _ (show 5 * j + 1 ≠ 5 * τ 4 0 + 3 by omega)]; rw [up_n _ _ _ (show 5 * j + 1 ≠ 5 * τ 4 0 + 2 by omega)]; rw [up_n _ _ _ (show 5 * j + 1 ≠ 5 * τ 4 0 + 1 by omega)]; rw [up_n _ _ _ (show 5 * j + 1 ≠ 5 * τ 4 0 by omega)]
  · rw [hn 7 (by omega) (by omega)]
    funext j
    have ej : σ 5 (5 * j + 2) = τ 7 j := congrFun eb j
    show up (up (up (up (up σ 5 (5 * τ 4 0) a) 5 (5 * τ 4 0 + 1) v) 5 (5 * τ 4 0 + 2) b) 5 (5 * τ 4 0 + 3) w) 5 (5 * τ 4 0 + 4) ear 5 (5 * j + 2) = (if j = τ 4 0 then b else τ 7 j)
    by_cases c : j = τ 4 0
    · rw [if_pos c, c]
      rw [up_n _ _ _ (show 5 * τ 4 0 + 2 ≠ 5 * τ 4 0 + 4 by omega)]; rw [up_n _ _ _ (show 5 * τ 4 0 + 2 ≠ 5 * τ 4 0 + 3 by omega)]; rw [up_s]
    · rw [if_neg c, ← ej]
      rw [up_n _ _ _ (show 5 * j + 2 ≠ 5 * τ 4 0 + 4 by omega)]; rw [up_n _ _ _ (show 5 * j + 2 ≠ 5 * τ 4 0 + 3 by omega)]; rw [up_n _ _ _ (show 5 * j + 2 ≠ 5 * τ 4 0 + 2 by omega)]; rw [up_n _ _ _ (show 5 * j + 2 ≠ 5 * τ 4 0 + 1 by omega)]; rw [up_n _ _ _ (show 5 * j + 2 ≠ 5 * τ 4 0 by omega)]
  · rw [hn 8 (by omega) (by omega)]
    funext j
    have ej : σ 5 (5 * j + 3) = τ 8 j := congrFun ew j
    show up (up (up (up (up σ 5 (5 * τ 4 0) a) 5 (5 * τ 4 0 + 1) v) 5 (5 * τ 4 0 + 2) b) 5 (5 * τ 4 0 + 3) w) 5 (5 * τ 4 0 + 4) ear 5 (5 * j + 3) = (if j = τ 4 0 then w else τ 8 j)
    by_cases c : j = τ 4 0
    · rw [if_pos c, c]
      rw [up_n _ _ _ (show 5 * τ 4 0 + 3 ≠ 5 * τ 4 0 + 4 by omega)]; rw [up_s]
    · rw [if_neg c, ← ej]
      rw [up_n _ _ _ (show 5 * j + 3 ≠ 5 * τ 4 0 + 4 by omega)]; rw [up_n _ _ _ (show 5 * j + 3 ≠ 5 * τ 4 0 + 3 by omega)]; rw [up_n _ _ _ (show 5 * j + 3 ≠ 5 * τ 4 0 + 2 by omega)]; rw [up_n _ _ _ (show 5 * j + 3 ≠ 5 * τ 4 0 + 1 by omega)]; rw [up_n _ _ _ (show 5 * j + 3 ≠ 5 * τ 4 0 by omega)]
  · rw [hn 9 (by omega) (by omega)]
    funext j
    have ej : σ 5 (5 * j + 4) = τ 9 j := congrFun ee j
    show up (up (up (up (up σ 5 (5 * τ 4 0) a) 5 (5 * τ 4 0 + 1) v) 5 (5 * τ 4 0 + 2) b) 5 (5 * τ 4 0 + 3) w) 5 (5 * τ 4 0 + 4) ear 5 (5 * j + 4) = (if j = τ 4 0 then ear else τ 9 j)
    by_cases c : j = τ 4 0
    · rw [if_pos c, c]
      rw [up_s]
    · rw [if_neg c, ← ej]
      rw [up_n _ _ _ (show 5 * j + 4 ≠ 5 * τ 4 0 + 4 by omega)]; rw [up_n _ _ _ (show 5 * j + 4 ≠ 5 * τ 4 0 + 3 by omega)]; rw [up_n _ _ _ (show 5 * j + 4 ≠ 5 * τ 4 0 + 2 by omega)]; rw [up_n _ _ _ (show 5 * j + 4 ≠ 5 * τ 4 0 + 1 by omega)]; rw [up_n _ _ _ (show 5 * j + 4 ≠ 5 * τ 4 0 by omega)]
  · rw [hn 16 (by omega) (by omega)]; exact e13
  · rw [hn 15 (by omega) (by omega)]; exact e14
set_option maxHeartbeats 1000000 in
theorem pm_untie {σ τ s2 t2 : St} {rA rB : Int} {k : Int} (h : Bth σ τ) (h5 : ((¬ (0 ≤ k ∧ k < τ 4 0) ∧ rA = -1 ∧ t2 = τ) ∨ ((0 ≤ k ∧ k < τ 4 0) ∧ rA = τ 4 0 - 1 ∧ ∃ u1 : St, ((∀ F, (F < 4 ∨ 9 < F) → u1 F = τ F) ∧ u1 4 0 = τ 4 0 - 1 ∧ (∀ y, u1 5 y = (if k ≤ y ∧ y < τ 4 0 - 1 then τ 5 (y + 1) else τ 5 y)) ∧ (∀ y, u1 6 y = (if k ≤ y ∧ y < τ 4 0 - 1 then τ 6 (y + 1) else τ 6 y)) ∧ (∀ y, u1 7 y = (if k ≤ y ∧ y < τ 4 0 - 1 then τ 7 (y + 1) else τ 7 y)) ∧ (∀ y, u1 8 y = (if k ≤ y ∧ y < τ 4 0 - 1 then τ 8 (y + 1) else τ 8 y)) ∧ (∀ y, u1 9 y = (if k ≤ y ∧ y < τ 4 0 - 1 then τ 9 (y + 1) else τ 9 y))) ∧ (∀ F, (F < 10 ∨ 14 < F) → F ≠ 19 → t2 F = (u1) F) ∧ t2 19 0 = 0 ∧ JI t2 ∧ WfC t2))) (h6 : ((¬ (0 ≤ k ∧ k < σ 4 0) ∧ rB = -1 ∧ s2 = σ) ∨ ((0 ≤ k ∧ k < σ 4 0) ∧ rB = σ 4 0 - 1 ∧ ∃ u1 : St, s2 = up u1 4 0 (σ 4 0 - 1) ∧ (∀ F, F ≠ 5 → u1 F = σ F) ∧ ∀ x, u1 5 x = if 5 * k ≤ x ∧ x < 5 * (σ 4 0 - 1) then σ 5 (x + 5) else σ 5 x))) : rA = rB ∧ Bth s2 t2 := by
  obtain ⟨e0, e1, e2, e3, e4, ⟨ea, ev, eb, ew, ee⟩, e13, e14⟩ := h.2
  simp only [e4] at h6
  rcases h5 with ⟨c1, r1, q1⟩ | ⟨c1, r1, u1, ⟨gn, g4, g5, g6, g7, g8, g9⟩, hn, h19, hj, hw⟩ <;> rcases h6 with ⟨c2, r2, q2⟩ | ⟨c2, r2, u2, q2, wn, w5⟩ <;> first | exact absurd c1 c2 | exact absurd c2 c1 | skip
  · subst q1; subst q2; exact ⟨by rw [r1, r2], h⟩
  subst q2
  refine ⟨by rw [r1, r2], ⟨hw, hj, BI_0 h19, PIv.same (fun F hF => (hn F (by omega) (by omega)).trans (gn F (by omega))) h.1.2.2.2⟩, ?_, ?_, ?_, ?_, ?_, ⟨?_, ?_, ?_, ?_, ?_⟩, ?_, ?_⟩
  · rw [hn 1 (by omega) (by omega), gn 1 (by omega), up_f _ _ _ _ (by omega), wn 0 (by omega)]; exact e0
  · rw [hn 2 (by omega) (by omega), gn 2 (by omega), up_o _ _ _ (by omega), wn 1 (by omega)]; exact e1
  · intro s p q
    rw [hn 1 (by omega) (by omega), gn 1 (by omega)] at q
    rw [hn 3 (by omega) (by omega), gn 3 (by omega), up_o _ _ _ (by omega), wn 2 (by omega)]
    exact e2 s p q
  · rw [hn 0 (by omega) (by omega), gn 0 (by omega), up_f _ _ _ _ (by omega), wn 3 (by omega)]; exact e3
  · rw [hn 4 (by omega) (by omega), g4, up_s]
  · rw [hn 5 (by omega) (by omega)]
    funext j
    have ej : σ 5 (5 * j) = τ 5 j := congrFun ea j
    have en : σ 5 (5 * (j + 1)) = τ 5 (j + 1) := congrFun ea (j + 1)
    show u2 5 (5 * j) = u1 5 j
    rw [g5, w5]
    by_cases c : k ≤ j ∧ j < τ 4 0 - 1
    · rw [if_pos c, if_pos (show 5 * k ≤ 5 * j ∧ 5 * j < 5 * (τ 4 0 - 1) by omega), ← en, show 5 * j + 5 = 5 * (j + 1) by omega]
    · rw [if_neg c, if_neg (show ¬ (5 * k ≤ 5 * j ∧ 5 * j < 5 * (τ 4 0 - 1)) by omega), ej]
  · rw [hn 6 (by omega) (by omega)]
    funext j
    have ej : σ 5 (5 * j + 1) = τ 6 j := congrFun ev j
    have en : σ 5 (5 * (j + 1) + 1) = τ 6 (j + 1) := congrFun ev (j + 1)
    show u2 5 (5 * j + 1) = u1 6 j
    rw [g6, w5]
    by_cases c : k ≤ j ∧ j < τ 4 0 - 1
    · rw [if_pos c, if_pos (show 5 * k ≤ 5 * j + 1 ∧ 5 * j + 1 < 5 * (τ 4 0 - 1) by omega), ← en, show 5 * j + 1 + 5 = 5 * (j + 1) + 1 by omega]
    · rw [if_neg c, if_neg (show ¬ (5 * k ≤ 5 * j + 1 ∧ 5 * j + 1 < 5 * (τ 4 0 - 1)) by omega), ej]
  · rw [hn 7 (by omega) (by omega)]
    funext j
    have ej : σ 5 (5 * j + 2) = τ 7 j := congrFun eb j
    have en : σ 5 (5 * (j + 1) + 2) = τ 7 (j + 1) := congrFun eb (j + 1)
    show u2 5 (5 * j + 2) = u1 7 j
    rw [g7, w5]
    by_cases c : k ≤ j ∧ j < τ 4 0 - 1
    · rw [if_pos c, if_pos (show 5 * k ≤ 5 * j + 2 ∧ 5 * j + 2 < 5 * (τ 4 0 - 1) by omega), ← en, show 5 * j + 2 + 5 = 5 * (j + 1) + 2 by omega]
    · rw [if_neg c, if_neg (show ¬ (5 * k ≤ 5 * j + 2 ∧ 5 * j + 2 < 5 * (τ 4 0 - 1)) by omega), ej]
  · rw [hn 8 (by omega) (by omega)]
    funext j
    have ej : σ 5 (5 * j + 3) = τ 8 j := congrFun ew j
    have en : σ 5 (5 * (j + 1) + 3) = τ 8 (j + 1) := congrFun ew (j + 1)
    show u2 5 (5 * j + 3) = u1 8 j
    rw [g8, w5]
    by_cases c : k ≤ j ∧ j < τ 4 0 - 1
    · rw [if_pos c, if_pos (show 5 * k ≤ 5 * j + 3 ∧ 5 * j + 3 < 5 * (τ 4 0 - 1) by omega), ← en, show 5 * j + 3 + 5 = 5 * (j + 1) + 3 by omega]
    · rw [if_neg c, if_neg (show ¬ (5 * k ≤ 5 * j + 3 ∧ 5 * j + 3 < 5 * (τ 4 0 - 1)) by omega), ej]
  · rw [hn 9 (by omega) (by omega)]
    funext j
    have ej : σ 5 (5 * j + 4) = τ 9 j := congrFun ee j
    have en : σ 5 (5 * (j + 1) + 4) = τ 9 (j + 1) := congrFun ee (j + 1)
    show u2 5 (5 * j + 4) = u1 9 j
    rw [g9, w5]
    by_cases c : k ≤ j ∧ j < τ 4 0 - 1
    · rw [if_pos c, if_pos (show 5 * k ≤ 5 * j + 4 ∧ 5 * j + 4 < 5 * (τ 4 0 - 1) by omega), ← en, show 5 * j + 4 + 5 = 5 * (j + 1) + 4 by omega]
    · rw [if_neg c, if_neg (show ¬ (5 * k ≤ 5 * j + 4 ∧ 5 * j + 4 < 5 * (τ 4 0 - 1)) by omega), ej]
  · rw [hn 16 (by omega) (by omega), gn 16 (by omega), up_f _ _ _ _ (by omega), wn 13 (by omega)]; exact e13
  · rw [hn 15 (by omega) (by omega), gn 15 (by omega), up_o _ _ _ (by omega), wn 14 (by omega)]; exact e14
set_option maxHeartbeats 1000000 in
theorem pm_mark {σ τ s2 t2 : St} {rA rB : Int} {m_ is : Int} (h : Bth σ τ) (h5 : ((¬ (20 ≤ m_ ∧ m_ ≤ 400) ∧ rA = -2 ∧ t2 = τ) ∨ ((20 ≤ m_ ∧ m_ ≤ 400) ∧ ((is = 1 ∧ ¬ ixF (τ 15) m_ (τ 16 0).toNat = -9) ∨ (is = 0 ∧ ixF (τ 15) m_ (τ 16 0).toNat = -9)) ∧ rA = 0 ∧ t2 = τ) ∨ ((20 ≤ m_ ∧ m_ ≤ 400) ∧ is = 1 ∧ ixF (τ 15) m_ (τ 16 0).toNat = -9 ∧ τ 16 0 = 16 ∧ rA = -4 ∧ t2 = τ) ∨ ((20 ≤ m_ ∧ m_ ≤ 400) ∧ is = 1 ∧ ixF (τ 15) m_ (τ 16 0).toNat = -9 ∧ ¬ τ 16 0 = 16 ∧ rA = 1 ∧ (∀ F, F ≠ 15 → F ≠ 16 → F ≠ 19 → t2 F = τ F) ∧ t2 19 0 = 0 ∧ WfC t2 ∧ t2 16 0 = τ 16 0 + 1 ∧ t2 15 = insM (τ 15) m_ (τ 16 0)) ∨ ((20 ≤ m_ ∧ m_ ≤ 400) ∧ is = 0 ∧ ¬ ixF (τ 15) m_ (τ 16 0).toNat = -9 ∧ rA = 1 ∧ (∀ F, F ≠ 15 → F ≠ 16 → F ≠ 19 → t2 F = τ F) ∧ t2 19 0 = 0 ∧ WfC t2 ∧ t2 16 0 = τ 16 0 - 1 ∧ t2 15 = delM (τ 15) (ixF (τ 15) m_ (τ 16 0).toNat) (τ 16 0)))) (h6 : ((¬ (20 ≤ m_ ∧ m_ ≤ 400) ∧ rB = -2 ∧ s2 = σ) ∨ ((20 ≤ m_ ∧ m_ ≤ 400) ∧ ((is = 1 ∧ ¬ ixF (σ 14) m_ (σ 13 0).toNat = -9) ∨ (is = 0 ∧ ixF (σ 14) m_ (σ 13 0).toNat = -9)) ∧ rB = 0 ∧ s2 = σ) ∨ ((20 ≤ m_ ∧ m_ ≤ 400) ∧ is = 1 ∧ ixF (σ 14) m_ (σ 13 0).toNat = -9 ∧ σ 13 0 = 16 ∧ rB = -4 ∧ s2 = σ) ∨ ((20 ≤ m_ ∧ m_ ≤ 400) ∧ is = 1 ∧ ixF (σ 14) m_ (σ 13 0).toNat = -9 ∧ ¬ σ 13 0 = 16 ∧ rB = 1 ∧ (∀ F, F ≠ 13 → F ≠ 14 → s2 F = σ F) ∧ s2 13 0 = σ 13 0 + 1 ∧ s2 14 = insM (σ 14) m_ (σ 13 0)) ∨ ((20 ≤ m_ ∧ m_ ≤ 400) ∧ is = 0 ∧ ¬ ixF (σ 14) m_ (σ 13 0).toNat = -9 ∧ rB = 1 ∧ (∀ F, F ≠ 13 → F ≠ 14 → s2 F = σ F) ∧ s2 13 0 = σ 13 0 - 1 ∧ s2 14 = delM (σ 14) (ixF (σ 14) m_ (σ 13 0).toNat) (σ 13 0)))) : rA = rB ∧ Bth s2 t2 := by
  obtain ⟨e0, e1, e2, e3, e4, ⟨ea, ev, eb, ew, ee⟩, e13, e14⟩ := h.2
  simp only [e13, e14] at h6
  rcases h5 with ⟨c1, r1, q1⟩ | ⟨c1, d1, r1, q1⟩ | ⟨c1, d1, f1, k1, r1, q1⟩ | ⟨c1, d1, f1, k1, r1, hn, h19, hw, g16, g15⟩ | ⟨c1, d1, f1, r1, hn, h19, hw, g16, g15⟩ <;> rcases h6 with ⟨c2, r2, q2⟩ | ⟨c2, d2, r2, q2⟩ | ⟨c2, d2, f2, k2, r2, q2⟩ | ⟨c2, d2, f2, k2, r2, wn, g13, g14⟩ | ⟨c2, d2, f2, r2, wn, g13, g14⟩ <;> first | exact absurd c1 c2 | exact absurd c2 c1 | (subst q1; subst q2; refine ⟨?_, h⟩; rw [r1, r2]; done) | exact absurd f1 f2 | exact absurd f2 f1 | exact absurd k1 k2 | exact absurd k2 k1 | (rcases d1 with ⟨z1, z2⟩ | ⟨z1, z2⟩ <;> first | exact absurd f2 z2 | exact absurd z2 f2 | omega) | (rcases d2 with ⟨z1, z2⟩ | ⟨z1, z2⟩ <;> first | exact absurd f1 z2 | exact absurd z2 f1 | omega) | omega | skip
  · refine ⟨by rw [r1, r2], ⟨hw, JI.same (fun F hF => hn F (by omega) (by omega) (by omega)) h.1.2.1, BI_0 h19, PIv.same (fun F hF => hn F (by omega) (by omega) (by omega)) h.1.2.2.2⟩, ?_, ?_, ?_, ?_, ?_, ⟨?_, ?_, ?_, ?_, ?_⟩, ?_, ?_⟩
    · rw [hn 1 (by omega) (by omega) (by omega), wn 0 (by omega) (by omega)]; exact e0
    · rw [hn 2 (by omega) (by omega) (by omega), wn 1 (by omega) (by omega)]; exact e1
    · intro s p q
      rw [hn 1 (by omega) (by omega) (by omega)] at q
      rw [hn 3 (by omega) (by omega) (by omega), wn 2 (by omega) (by omega)]
      exact e2 s p q
    · rw [hn 0 (by omega) (by omega) (by omega), wn 3 (by omega) (by omega)]; exact e3
    · rw [hn 4 (by omega) (by omega) (by omega), wn 4 (by omega) (by omega)]; exact e4
    · unfold mA; rw [hn 5 (by omega) (by omega) (by omega), wn 5 (by omega) (by omega)]; exact ea
    · unfold mV; rw [hn 6 (by omega) (by omega) (by omega), wn 5 (by omega) (by omega)]; exact ev
    · unfold mB; rw [hn 7 (by omega) (by omega) (by omega), wn 5 (by omega) (by omega)]; exact eb
    · unfold mW; rw [hn 8 (by omega) (by omega) (by omega), wn 5 (by omega) (by omega)]; exact ew
    · unfold mE; rw [hn 9 (by omega) (by omega) (by omega), wn 5 (by omega) (by omega)]; exact ee
    · rw [g13, g16]
    · rw [g14, g15]
  · refine ⟨by rw [r1, r2], ⟨hw, JI.same (fun F hF => hn F (by omega) (by omega) (by omega)) h.1.2.1, BI_0 h19, PIv.same (fun F hF => hn F (by omega) (by omega) (by omega)) h.1.2.2.2⟩, ?_, ?_, ?_, ?_, ?_, ⟨?_, ?_, ?_, ?_, ?_⟩, ?_, ?_⟩
    · rw [hn 1 (by omega) (by omega) (by omega), wn 0 (by omega) (by omega)]; exact e0
    · rw [hn 2 (by omega) (by omega) (by omega), wn 1 (by omega) (by omega)]; exact e1
    · intro s p q
      rw [hn 1 (by omega) (by omega) (by omega)] at q
      rw [hn 3 (by omega) (by omega) (by omega), wn 2 (by omega) (by omega)]
      exact e2 s p q
    · rw [hn 0 (by omega) (by omega) (by omega), wn 3 (by omega) (by omega)]; exact e3
    · rw [hn 4 (by omega) (by omega) (by omega), wn 4 (by omega) (by omega)]; exact e4
    · unfold mA; rw [hn 5 (by omega) (by omega) (by omega), wn 5 (by omega) (by omega)]; exact ea
    · unfold mV; rw [hn 6 (by omega) (by omega) (by omega), wn 5 (by omega) (by omega)]; exact ev
    · unfold mB; rw [hn 7 (by omega) (by omega) (by omega), wn 5 (by omega) (by omega)]; exact eb
    · unfold mW; rw [hn 8 (by omega) (by omega) (by omega), wn 5 (by omega) (by omega)]; exact ew
    · unfold mE; rw [hn 9 (by omega) (by omega) (by omega), wn 5 (by omega) (by omega)]; exact ee
    · rw [g13, g16]
    · rw [g14, g15]
