theorem lh_in {u : St} {fo : Int → Int} {s_ m_ nM : Int} (g3 : ∀ s m, 0 ≤ s → s < s_ → 0 ≤ m → m < nM → tbl u s m = if fo s = -9 then 0 else if fo s = m then 0 else 1000000000) (g4 : ∀ m, 0 ≤ m → m < m_ → tbl u s_ m = if fo s_ = -9 then 0 else if fo s_ = m then 0 else 1000000000) (hm : nM ≤ m_) (s m : Int) (a1 : 0 ≤ s) (a2 : s < s_ + 1) (a3 : 0 ≤ m) (a4 : m < nM) : tbl u s m = if fo s = -9 then 0 else if fo s = m then 0 else 1000000000 := by
  rcases (show s < s_ ∨ s = s_ by omega) with q | q
  · exact g3 s m a1 q a3 a4
  · rw [q]; exact g4 m a3 (by omega)
theorem lh_a {u : St} {fo : Int → Int} {s_ m_ nM z : Int} (h0 : 0 ≤ m_ ∧ m_ < 16) (hM : nM ≤ 16) (g3 : ∀ s m, 0 ≤ s → s < s_ → 0 ≤ m → m < nM → tbl u s m = if fo s = -9 then 0 else if fo s = m then 0 else 1000000000) (s m : Int) (a1 : 0 ≤ s) (a2 : s < s_) (a3 : 0 ≤ m) (a4 : m < nM) : tbl (up u 16 (16 * s_ + m_) z) s m = if fo s = -9 then 0 else if fo s = m then 0 else 1000000000 := by
  show up u 16 (16 * s_ + m_) z 16 (16 * s + m) = _
  rw [up_n _ _ _ (by omega)]
  exact g3 s m a1 a2 a3 a4
theorem lh_b {u : St} {fo : Int → Int} {s_ m_ z : Int} (g4 : ∀ m, 0 ≤ m → m < m_ → tbl u s_ m = if fo s_ = -9 then 0 else if fo s_ = m then 0 else 1000000000) (hz : z = if fo s_ = -9 then 0 else if fo s_ = m_ then 0 else 1000000000) (m : Int) (a3 : 0 ≤ m) (a4 : m < m_ + 1) : tbl (up u 16 (16 * s_ + m_) z) s_ m = if fo s_ = -9 then 0 else if fo s_ = m then 0 else 1000000000 := by
  show up u 16 (16 * s_ + m_) z 16 (16 * s_ + m) = _
  by_cases q : m = m_
  · rw [q, up_s, hz]
  · rw [up_n _ _ _ (by omega)]
    exact g4 m a3 (by omega)
theorem lh_0 {σ u : St} {c : Int} (hwf : WfM σ) (h1 : 1 ≤ σ 0 0) (hT : TF (mA σ) (mV σ) (mB σ) (mW σ) (σ 4 0).toNat 0 (σ 10 0) (σ 11) (σ 12)) (hc : 1 ≤ σ 10 0) (e : c = σ 10 0) (h3 : ∀ s m, 0 ≤ s → s < σ 0 0 → 0 ≤ m → m < σ 13 0 → tbl u s m = if σ 15 s = -9 then 0 else if σ 15 s = m then 0 else 1000000000) : DPI (σ 0 0) (ALf (σ 13 0) (σ 15)) (mA σ) (mB σ) (hmF (mV σ) (mW σ) (mE σ) (σ 14)) (σ 11) (σ 12) (σ 10 0).toNat (tbl u) ((c - 1).toNat + 1) := by
  rw [e, show (σ 10 0 - 1).toNat + 1 = (σ 10 0).toNat by omega]
  refine DP_init (fun t t0 t1 => TF_sec hwf h1 (by omega) hT t0 (by omega)) (fun s m s0 s1 al => ?_)
  rw [h3 s m s0 s1 al.1.1 al.1.2]
  rcases al.2 with q | q
  · rw [if_pos q]
  · by_cases q9 : σ 15 s = -9
    · rw [if_pos q9]
    · rw [if_neg q9, if_pos q.symm]
theorem zF_b (x : Int) : 0 ≤ zF x ∧ zF x ≤ 63 := by
  unfold zF
  repeat' split
  all_goals omega
theorem lh_0b {σ u : St} {c : Int} (e : c = σ 10 0) (hc : 1 ≤ σ 10 0 ∧ σ 10 0 ≤ 7) (hfo : ∀ s, 0 ≤ s → s < σ 0 0 → σ 15 s = -9 ∨ (0 ≤ σ 15 s ∧ σ 15 s < σ 13 0)) (h3 : ∀ s m, 0 ≤ s → s < σ 0 0 → 0 ≤ m → m < σ 13 0 → tbl u s m = if σ 15 s = -9 then 0 else if σ 15 s = m then 0 else 1000000000) : TBo (σ 0 0) (σ 13 0) (σ 15) u (zF (c - 1)) := by
  intro s m s0 s1 m0 m1
  have zb := zF_b (c - 1)
  rw [h3 s m s0 s1 m0 m1]
  refine ⟨fun al => ?_, fun al => ?_⟩
  · have : (if σ 15 s = -9 then (0 : Int) else if σ 15 s = m then 0 else 1000000000) = 0 := by
      rcases al.2 with q | q
      · rw [if_pos q]
      · by_cases q9 : σ 15 s = -9
        · rw [if_pos q9]
        · rw [if_neg q9, if_pos q.symm]
    omega
  · rw [if_neg (fun q => al ⟨⟨m0, m1⟩, Or.inl q⟩), if_neg (fun q => al ⟨⟨m0, m1⟩, Or.inr q.symm⟩)]
theorem tb_rng {nS nM : Int} {fo : Int → Int} {u : St} {z : Int} (h : TBo nS nM fo u z) (hz : 0 ≤ z ∧ z ≤ 63) {s m : Int} (s0 : 0 ≤ s) (s1 : s < nS) (m0 : 0 ≤ m) (m1 : m < nM) : 0 ≤ tbl u s m ∧ tbl u s m ≤ 1000000000 := by
  have := h s m s0 s1 m0 m1
  rcases ALf_dec (fo := fo) (s := s) (show 0 ≤ m ∧ m < nM by omega) with al | al
  · have := this.1 al; omega
  · have := this.2 al; omega
theorem lh_hy {σ u u' : St} {x : Int} (k2 : ∀ F, F ≠ 16 → u F = σ F) (hy : ∀ y, u' 16 y = if 16 * (if mB u (u 12 x) = u 11 x then mA u (u 12 x) else mB u (u 12 x)) ≤ y ∧ y < 16 * (if mB u (u 12 x) = u 11 x then mA u (u 12 x) else mB u (u 12 x)) + u 13 0 then min (u 16 y + mnF (fun z => u 16 (16 * u 11 x + z) + (if mB u (u 12 x) = u 11 x then hmF (mV u) (mW u) (mE u) (u 14) (u 12 x) (y - 16 * (if mB u (u 12 x) = u 11 x then mA u (u 12 x) else mB u (u 12 x))) z else hmF (mV u) (mW u) (mE u) (u 14) (u 12 x) z (y - 16 * (if mB u (u 12 x) = u 11 x then mA u (u 12 x) else mB u (u 12 x))))) 1000000000 (u 13 0).toNat) 1000000000 else u 16 y) :
    ∀ y, u' 16 y = if 16 * (if mB σ (σ 12 x) = σ 11 x then mA σ (σ 12 x) else mB σ (σ 12 x)) ≤ y ∧ y < 16 * (if mB σ (σ 12 x) = σ 11 x then mA σ (σ 12 x) else mB σ (σ 12 x)) + σ 13 0 then min (u 16 y + mnF (fun z => u 16 (16 * σ 11 x + z) + (if mB σ (σ 12 x) = σ 11 x then hmF (mV σ) (mW σ) (mE σ) (σ 14) (σ 12 x) (y - 16 * (if mB σ (σ 12 x) = σ 11 x then mA σ (σ 12 x) else mB σ (σ 12 x))) z else hmF (mV σ) (mW σ) (mE σ) (σ 14) (σ 12 x) z (y - 16 * (if mB σ (σ 12 x) = σ 11 x then mA σ (σ 12 x) else mB σ (σ 12 x))))) 1000000000 (σ 13 0).toNat) 1000000000 else u 16 y := by
  have eA : mA u = mA σ := by unfold mA; rw [k2 5 (by decide)]
  have eB : mB u = mB σ := by unfold mB; rw [k2 5 (by decide)]
  have eV : mV u = mV σ := by unfold mV; rw [k2 5 (by decide)]
  have eW : mW u = mW σ := by unfold mW; rw [k2 5 (by decide)]
  have eE : mE u = mE σ := by unfold mE; rw [k2 5 (by decide)]
  rw [eA, eB, eV, eW, eE, k2 11 (by decide), k2 12 (by decide), k2 13 (by decide), k2 14 (by decide)] at hy
  exact hy
theorem fp0 {u1 u : St} (h : ∀ F, F ≠ 15 → u1 F = u F) : u1 0 0 = u 0 0 := by rw [h 0 (by decide)]
theorem fp13 {u1 u : St} (h : ∀ F, F ≠ 15 → u1 F = u F) : u1 13 0 = u 13 0 := by rw [h 13 (by decide)]
theorem fp4 {u1 u : St} (h : ∀ F, F ≠ 15 → u1 F = u F) : u1 4 0 = u 4 0 := by rw [h 4 (by decide)]
theorem fpq {u1 u : St} (h : ∀ F, F ≠ 15 → F ≠ 16 → u1 F = u F) : eqM u1 u := ⟨h 0 (by decide) (by decide), h 1 (by decide) (by decide), h 2 (by decide) (by decide), h 3 (by decide) (by decide), h 4 (by decide) (by decide), h 5 (by decide) (by decide), h 13 (by decide) (by decide), h 14 (by decide) (by decide)⟩
theorem fpw2 {u1 u : St} (h : ∀ F, F ≠ 15 → u1 F = u F) (hw : WfM u) : WfM u1 := (fpq (fun F a _ => h F a)).wf hw
theorem fpw3 {u1 u : St} (h : ∀ F, F ≠ 15 → F ≠ 16 → u1 F = u F) (hw : WfM u) : WfM u1 := (fpq h).wf hw
theorem fpG {u1 u : St} (h : ∀ F, F ≠ 15 → F ≠ 16 → u1 F = u F) (F : Nat) (a : F ≠ 15) (b : F ≠ 16) : u1 F 0 = u F 0 := by rw [h F a b]
theorem fpd {u1 u : St} {m f : Int} (h : ∀ F, F ≠ 15 → F ≠ 16 → u1 F = u F) (hd : SPD u m f) : SPD u1 m f := by
  obtain ⟨t1, t2, t3, t4, -⟩ := (fpq h).ties
  have e7 := h 7 (by decide) (by decide)
  have e8 := h 8 (by decide) (by decide)
  have e9 := h 9 (by decide) (by decide)
  have e10 := h 10 (by decide) (by decide)
  have e11 := h 11 (by decide) (by decide)
  have e12 := h 12 (by decide) (by decide)
  have ev : vz u1 = vz u := by funext x; unfold vz; rw [e7]
  unfold SPD SPI SPv SPb SPm SPc at hd ⊢
  rw [t1, t2, t3, t4, e7, e8, e9, e10, e11, e12, ev]
  exact hd
theorem fpd2 {u1 u : St} {m f : Int} (h : ∀ F, F ≠ 15 → u1 F = u F) (hd : SPD u m f) : SPD u1 m f := fpd (fun F a _ => h F a) hd
theorem fpd3 {u1 u : St} {m f : Int} (h : ∀ F, F ≠ 15 → F ≠ 16 → u1 F = u F) (hd : SPD u m f) : SPD u1 m f := fpd h hd
theorem fpj {u2 u1 u : St} (h : ∀ F, F ≠ 15 → u1 F = u F) (h2 : ∀ F, F ≠ 16 → u2 F = u1 F) : ∀ F, F ≠ 15 → F ≠ 16 → u2 F = u F := fun F a b => by rw [h2 F b, h F a]
theorem fpj3 {u2 u1 u : St} (h : ∀ F, F ≠ 15 → F ≠ 16 → u1 F = u F) (h2 : ∀ F, F ≠ 16 → u2 F = u1 F) : ∀ F, F ≠ 15 → F ≠ 16 → u2 F = u F := fun F a b => by rw [h2 F b, h F a b]
theorem fpq2 {u2 u1 u σ : St} (h : ∀ F, F ≠ 15 → u1 F = u F) (h2 : ∀ F, F ≠ 16 → u2 F = u1 F) (hq : eqM u σ) : eqM u2 σ := (fpq (fpj h h2)).tr hq
theorem fpd4 {u2 u1 u : St} {m f : Int} (h : ∀ F, F ≠ 15 → u1 F = u F) (h2 : ∀ F, F ≠ 16 → u2 F = u1 F) (hd : SPD u m f) : SPD u2 m f := fpd (fpj h h2) hd
theorem fpq5 {u2 u1 u σ : St} (h : ∀ F, F ≠ 15 → F ≠ 16 → u1 F = u F) (h2 : ∀ F, F ≠ 16 → u2 F = u1 F) (hq : eqM u σ) : eqM u2 σ := (fpq (fpj3 h h2)).tr hq
theorem fpd5 {u2 u1 u : St} {m f : Int} (h : ∀ F, F ≠ 15 → F ≠ 16 → u1 F = u F) (h2 : ∀ F, F ≠ 16 → u2 F = u1 F) (hd : SPD u m f) : SPD u2 m f := fpd (fpj3 h h2) hd
theorem HC_eq {u σ : St} (hq : eqM u σ) : HC (u 4 0).toNat (mA u) (mV u) (mB u) (mW u) (mE u) (u 14) = HC (σ 4 0).toNat (mA σ) (mV σ) (mB σ) (mW σ) (mE σ) (σ 14) := by
  obtain ⟨t1, t2, t3, t4, t5⟩ := hq.ties
  rw [t1, t2, t3, t4, t5, hq.2.2.2.2.1, hq.2.2.2.2.2.2.2]
theorem fp_min {σ u u1 : St} {x : Int} (hq : eqM u σ) (h2 : ∀ F, F ≠ 15 → u1 F = u F) (hm : MinH (u1 0 0) (u1 13 0) (u1 15) (HC (u1 4 0).toNat (mA u1) (mV u1) (mB u1) (mW u1) (mE u1) (u1 14)) x) (hF : ∀ s, 0 ≤ s → s < σ 0 0 → u1 15 s = pinF (σ 14) (σ 13 0) (σ 2) s) : MinH (σ 0 0) (σ 13 0) (pinF (σ 14) (σ 13 0) (σ 2)) (HC (σ 4 0).toNat (mA σ) (mV σ) (mB σ) (mW σ) (mE σ) (σ 14)) x := by
  have hq1 : eqM u1 σ := (fpq (fun F a _ => h2 F a)).tr hq
  rw [HC_eq hq1, hq1.1, hq1.2.2.2.2.2.2.1] at hm
  have iff : ∀ g, aOk (σ 0 0) (ALf (σ 13 0) (u1 15)) g ↔ aOk (σ 0 0) (ALf (σ 13 0) (pinF (σ 14) (σ 13 0) (σ 2))) g := by
    intro g
    constructor
    · intro h s s0 s1
      have := h s s0 s1
      unfold ALf at this ⊢
      rw [← hF s s0 s1]; exact this
    · intro h s s0 s1
      have := h s s0 s1
      unfold ALf at this ⊢
      rw [hF s s0 s1]; exact this
  refine ⟨fun g hg => hm.1 g ((iff g).mpr hg), ?_⟩
  obtain ⟨g, o, e⟩ := hm.2
  exact ⟨g, (iff g).mp o, e⟩
theorem fp_min3 {σ u u1 : St} {x : Int} (hq : eqM u σ) (h2 : ∀ F, F ≠ 15 → F ≠ 16 → u1 F = u F) (hm : MinH (u1 0 0) (u1 13 0) (u1 15) (HC (u1 4 0).toNat (mA u1) (mV u1) (mB u1) (mW u1) (mE u1) (u1 14)) x) : MinH (σ 0 0) (σ 13 0) (u1 15) (HC (σ 4 0).toNat (mA σ) (mV σ) (mB σ) (mW σ) (mE σ) (σ 14)) x := by
  have hq1 : eqM u1 σ := (fpq h2).tr hq
  rw [HC_eq hq1, hq1.1, hq1.2.2.2.2.2.2.1] at hm
  exact hm
theorem fp_pin {u : St} {s_ z : Int} {f : Int → Int} (h3 : ∀ s, 0 ≤ s → s < s_ → u 15 s = f s) (hz : z = f s_) (s : Int) (a1 : 0 ≤ s) (a2 : s < s_ + 1) : up u 15 s_ z 15 s = f s := by
  rw [up_i]
  by_cases q : s = s_
  · rw [if_pos q, q]; exact hz
  · rw [if_neg q]; exact h3 s a1 (by omega)
theorem fp_p1 {σ u1 u : St} {s r : Int} (hwf : WfM σ) (hs : 0 ≤ s ∧ s < σ 0 0) (hp : r = pnH (u1 13 0) (u1 14) (u1 2 s)) (h : r = 0) (f13 : u1 13 0 = u 13 0) (f14 : u1 14 = σ 14) (f2 : u1 2 = σ 2) (e13 : u 13 0 = σ 13 0) : -9 = pinF (σ 14) (σ 13 0) (σ 2) s := by
  rw [f13, f14, f2, e13, h] at hp
  unfold pnH at hp
  unfold pinF
  by_cases q : σ 2 s = -9
  · rw [q]
    exact (ixF_no _ (fun k k0 k1 => by have := hwf.2.2.2.2.2.2.2.1 k k0 (by have := hwf.n.2.2.2; omega); omega)).symm
  · rw [if_neg q] at hp
    by_cases q2 : ixF (σ 14) (σ 2 s) (σ 13 0).toNat = -9
    · exact q2.symm
    · rw [if_neg q2] at hp; omega
theorem fp_p2 {σ u1 u : St} {s : Int} (f13 : u1 13 0 = u 13 0) (f14 : u1 14 = σ 14) (f2 : u1 2 = σ 2) (e13 : u 13 0 = σ 13 0) : ixF (u1 14) (u1 2 s) (u1 13 0).toNat = pinF (σ 14) (σ 13 0) (σ 2) s := by
  rw [f13, f14, f2, e13]; rfl
theorem fp_init {nS nM x : Int} {F0 fo : Int → Int} {H : (Int → Int) → Int} {pl : Int → Prop} (hm : MinH nS nM F0 H x) (hf : ∀ s, 0 ≤ s → s < nS → fo s = F0 s) (hM : 0 ≤ nM) : FPs nS nM F0 H pl x 0 fo := by
  have r0 : ∀ t, 0 ≤ t → t < nS → F0 t = -9 ∨ (0 ≤ F0 t ∧ F0 t < nM) := by
    obtain ⟨-, g, hg, -⟩ := hm
    intro t t0 t1
    have := hg t t0 t1
    rcases this.2 with r | r
    · exact Or.inl r
    · rw [← r]; exact Or.inr this.1
  have iff : ∀ g, aOk nS (ALf nM fo) g ↔ aOk nS (ALf nM F0) g := by
    intro g
    constructor
    · intro h s s0 s1
      have := h s s0 s1
      unfold ALf at this ⊢
      rw [← hf s s0 s1]; exact this
    · intro h s s0 s1
      have := h s s0 s1
      unfold ALf at this ⊢
      rw [hf s s0 s1]; exact this
  refine ⟨r0, fun t t0 t1 _ => hf t t0 t1, fun t t0 t1 e _ => by rw [hf t t0 t1]; exact e, fun t a1 _ a2 => by omega, hm, ⟨fun g hg => hm.1 g ((iff g).mp hg), ?_⟩, fun t a1 _ a2 => by omega⟩
  obtain ⟨g, o, e⟩ := hm.2
  exact ⟨g, (iff g).mpr o, e⟩
theorem fpf {nS nM x s_ m_ : Int} {F0 fo fo' : Int → Int} {H : (Int → Int) → Int} {pl : Int → Prop} (g4 : FPs nS nM F0 H pl x s_ fo) (m1 : 0 ≤ m_ ∧ m_ < nM) (m3 : ∀ t, fo' t = if t = s_ then m_ else fo t) : ∀ s, 0 ≤ s → s < nS → fo' s = -9 ∨ (0 ≤ fo' s ∧ fo' s < nM) := by
  intro s s0 s1
  rw [m3]
  by_cases q : s = s_
  · rw [if_pos q]; exact Or.inr m1
  · rw [if_neg q]; exact FP_rng g4 s s0 s1
theorem fp_inc {u3 u : St} {fo : Int → Int} {s_ m_ : Int} (m3 : ∀ t, u3 15 t = if t = s_ then m_ else fo t) (h : u 15 = u3 15) (t : Int) : up u 15 s_ (u 15 s_ + 1) 15 t = if t = s_ then m_ + 1 else fo t := by
  rw [up_i, h, m3 s_, if_pos rfl, m3 t]
  by_cases q : t = s_
  · rw [if_pos q, if_pos q]
  · rw [if_neg q, if_neg q, if_neg q]

set_option maxHeartbeats 4000000 in
set_option maxRecDepth 100000 in
theorem kX6_leastHarm (l : Launch) (D : va_G) (E : Nat → Nat) (q : Nat → Nat) (σ : St) (hwf : WfM σ) (hd : SPD σ (σ 4 0) 0) (h1S : 1 ≤ σ 0 0 ∧ 1 ≤ σ 13 0) (hfo : ∀ s, 0 ≤ s → s < σ 0 0 → σ 15 s = -9 ∨ (0 ≤ σ 15 s ∧ σ 15 s < σ 13 0)) : CtI l D E yX6_leastHarm wsX6_leastHarm ({ frames := 3, cells := 0, slots := 0, locals := 74 } : Room) [.ref (q 0)] (MW E q σ) (MW E q) (fun (rv : Int) (uu : St) => ((∀ F, F ≠ 16 → uu F = σ F) ∧ MinH (σ 0 0) (σ 13 0) (σ 15) (HC (σ 4 0).toNat (mA σ) (mV σ) (mB σ) (mW σ) (mE σ) (σ 14)) rv ∧ (0 ≤ rv ∧ rv < 1000000000))) := by
  refine mk_I (cc := cX6_leastHarm) (maxL := 3) (ret := some .int) (by decide) rfl (Nat.le_of_ble_eq_true rfl) ?_
  intro p e s m args below meth c A X hret
  have hin6 : ∀ x ∈ u_ws RX6 TX6 19, x ∈ wsX6_leastHarm := fun _ h => List.mem_cons_of_mem _ (List.mem_append_right _ h)
  refine z_lv (lv' := [(0, .ref (q 0))]) [0] rfl ?_
  obtain ⟨n0, n3, n4, n13⟩ := hwf.n
  have hT := SPD_TF hwf hd (by omega)
  have hTF := hT
  obtain ⟨t1, t2, t3, t4, t5, t6⟩ := hTF
  refine z_iconst (pc' := 1) X dX6_leastHarm_0 rfl ?_
  refine z_istore_n (pc' := 2) (lv' := [(1, .int (jI 0)), (0, .ref (q 0))]) X dX6_leastHarm_1 rfl rfl (by decide) rfl ?_
  have lp2 : ∀ (nF : Nat) (s_ : Int) (u1 : St) , ((0 ≤ s_ ∧ s_ ≤ σ 0 0) ∧ (∀ F, F ≠ 16 → u1 F = σ F) ∧ ∀ s m, 0 ≤ s → s < s_ → 0 ≤ m → m < σ 13 0 → tbl u1 s m = (if σ 15 s = -9 then 0 else if σ 15 s = m then 0 else 1000000000)) → ((7 - s_).toNat : Nat) < nF → J p l e (headSpec wsX6_leastHarm ({ frames := 3, cells := 0, slots := 0, locals := 74 } : Room)).room s m args below meth c D A 3 (MQ below (va_Qi (fun r u => ∃ x, r = jI x ∧ (fun (rv : Int) (uu : St) => ((∀ F, F ≠ 16 → uu F = σ F) ∧ MinH (σ 0 0) (σ 13 0) (σ 15) (HC (σ 4 0).toNat (mA σ) (mV σ) (mB σ) (mW σ) (mE σ) (σ 14)) rv ∧ (0 ≤ rv ∧ rv < 1000000000))) x u) (Bw D (MW E q) A) A) args s 0 0 A) 2 [(1, .int (jI s_)), (0, .ref (q 0))] [] (MW E q u1) := by
    intro nF
    induction nF with
    | zero => intro s_ u1  hI hn; exact absurd hn (Nat.not_lt_zero _)
    | succ nF ih2 =>
      intro s_ u1  hI hn
      obtain ⟨h1, h2, h3⟩ := hI
      have e0 : u1 0 0 = σ 0 0 := by rw [h2 0 (by decide)]
      refine z_iload_n (pc' := 3) X dX6_leastHarm_2 rfl 0 rfl rfl ?_
      refine z_aload_n (pc' := 4) X dX6_leastHarm_3 rfl 1 rfl rfl ?_
      refine z_get (pc' := 7) (C := RX6) (ref := "PivotBeatsModel") (T := TX6) (N := 19) (v := .int (jI (u1 0 0))) X dX6_leastHarm_4 rfl hin6 0 rfl rfl 0 (by decide) (by decide +kernel) rfl rfl ?_
      refine z_icmp_ge (tgt := 70) (pc' := 10) X dX6_leastHarm_7 (by decide) rfl (by omega) (fun h7 => ?_) (fun h7 => ?_)
      · have e10 : u1 10 0 = σ 10 0 := by rw [h2 10 (by decide)]
        refine z_aload_n (pc' := 71) X dX6_leastHarm_70 rfl 1 rfl rfl ?_
        refine z_get (pc' := 74) (C := RX6) (ref := "PivotBeatsModel") (T := TX6) (N := 19) (v := .int (jI (u1 10 0))) X dX6_leastHarm_71 rfl hin6 0 rfl rfl 10 (by decide) (by decide +kernel) rfl rfl ?_
        refine z_iconst (pc' := 75) X dX6_leastHarm_74 rfl ?_
        refine z_isub (pc' := 76) X dX6_leastHarm_75 rfl ?_
        refine z_istore_n (pc' := 77) (lv' := [(1, .int (jI ((u1 10 0) - 1))), (0, .ref (q 0))]) X dX6_leastHarm_76 rfl rfl (by decide) rfl ?_
        have lp77 : ∀ (nF : Nat) (x : Int) (u3 : St) , ((0 ≤ x ∧ x ≤ σ 10 0 - 1) ∧ (∀ F, F ≠ 16 → u3 F = σ F) ∧ DPI (σ 0 0) (ALf (σ 13 0) (σ 15)) (mA σ) (mB σ) (hmF (mV σ) (mW σ) (mE σ) (σ 14)) (σ 11) (σ 12) (σ 10 0).toNat (tbl u3) (x.toNat + 1) ∧ TBo (σ 0 0) (σ 13 0) (σ 15) u3 (zF x)) → (x.toNat : Nat) < nF → J p l e (headSpec wsX6_leastHarm ({ frames := 3, cells := 0, slots := 0, locals := 74 } : Room)).room s m args below meth c D A 3 (MQ below (va_Qi (fun r u => ∃ x, r = jI x ∧ (fun (rv : Int) (uu : St) => ((∀ F, F ≠ 16 → uu F = σ F) ∧ MinH (σ 0 0) (σ 13 0) (σ 15) (HC (σ 4 0).toNat (mA σ) (mV σ) (mB σ) (mW σ) (mE σ) (σ 14)) rv ∧ (0 ≤ rv ∧ rv < 1000000000))) x u) (Bw D (MW E q) A) A) args s 0 0 A) 77 [(1, .int (jI x)), (0, .ref (q 0))] [] (MW E q u3) := by
          intro nF
          induction nF with
          | zero => intro x u3  hI hn; exact absurd hn (Nat.not_lt_zero _)
          | succ nF ih77 =>
            intro x u3  hI hn
            obtain ⟨k1, k2, k3, k4⟩ := hI
            have w3 := ne16 k2 hwf
            have e11 : u3 11 = σ 11 := k2 11 (by decide)
            have e12 : u3 12 = σ 12 := k2 12 (by decide)
            have f5 : u3 5 = σ 5 := k2 5 (by decide)
            have f0 : u3 0 0 = σ 0 0 := by rw [k2 0 (by decide)]
            have f4 : u3 4 0 = σ 4 0 := by rw [k2 4 (by decide)]
            have f13 : u3 13 0 = σ 13 0 := by rw [k2 13 (by decide)]
            refine z_iload_n (pc' := 78) X dX6_leastHarm_77 rfl 0 rfl rfl ?_
            refine z_if_le (tgt := 103) (pc' := 81) X dX6_leastHarm_78 (by decide) rfl (by omega) (fun h78 => ?_) (fun h78 => ?_)
            · refine z_ldc (pc' := 105) (x := 1000000000) X dX6_leastHarm_103 rfl (by decide +kernel) rfl ?_
              refine z_istore_n (pc' := 106) (lv' := [(1, .int (jI 1000000000)), (0, .ref (q 0))]) X dX6_leastHarm_105 rfl rfl (by decide) rfl ?_
              refine z_iconst (pc' := 107) X dX6_leastHarm_106 rfl ?_
              refine z_istore_n (pc' := 108) (lv' := [(2, .int (jI 0)), (1, .int (jI 1000000000)), (0, .ref (q 0))]) X dX6_leastHarm_107 rfl rfl (by decide) rfl ?_
              have lp108 : ∀ (nF : Nat) (m_ : Int) (least : Int) , ((0 ≤ m_ ∧ m_ ≤ σ 13 0) ∧ least = mnF (tbl u3 0) 1000000000 m_.toNat ∧ (0 ≤ least ∧ least ≤ 1000000000)) → ((16 - m_).toNat : Nat) < nF → J p l e (headSpec wsX6_leastHarm ({ frames := 3, cells := 0, slots := 0, locals := 74 } : Room)).room s m args below meth c D A 3 (MQ below (va_Qi (fun r u => ∃ x, r = jI x ∧ (fun (rv : Int) (uu : St) => ((∀ F, F ≠ 16 → uu F = σ F) ∧ MinH (σ 0 0) (σ 13 0) (σ 15) (HC (σ 4 0).toNat (mA σ) (mV σ) (mB σ) (mW σ) (mE σ) (σ 14)) rv ∧ (0 ≤ rv ∧ rv < 1000000000))) x u) (Bw D (MW E q) A) A) args s 0 0 A) 108 [(2, .int (jI m_)), (1, .int (jI least)), (0, .ref (q 0))] [] (MW E q u3) := by
                intro nF
                induction nF with
                | zero => intro m_ least  hI hn; exact absurd hn (Nat.not_lt_zero _)
                | succ nF ih108 =>
                  intro m_ least  hI hn
                  obtain ⟨g1, g2, g3⟩ := hI
                  refine z_iload_n (pc' := 109) X dX6_leastHarm_108 rfl 0 rfl rfl ?_
                  refine z_aload_n (pc' := 110) X dX6_leastHarm_109 rfl 2 rfl rfl ?_
                  refine z_get (pc' := 113) (C := RX6) (ref := "PivotBeatsModel") (T := TX6) (N := 19) (v := .int (jI (u3 13 0))) X dX6_leastHarm_110 rfl hin6 0 rfl rfl 13 (by decide) (by decide +kernel) rfl rfl ?_
                  refine z_icmp_ge (tgt := 143) (pc' := 116) X dX6_leastHarm_113 (by decide) rfl (by omega) (fun h113 => ?_) (fun h113 => ?_)
                  · refine z_iload_n (pc' := 144) X dX6_leastHarm_143 rfl 1 rfl rfl ?_
                    exact z_iret (post := (fun (rv : Int) (uu : St) => ((∀ F, F ≠ 16 → uu F = σ F) ∧ MinH (σ 0 0) (σ 13 0) (σ 15) (HC (σ 4 0).toNat (mA σ) (mV σ) (mB σ) (mW σ) (mE σ) (σ 14)) rv ∧ (0 ≤ rv ∧ rv < 1000000000)))) X dX6_leastHarm_144 hret u3 (⟨k2, by have z := lh_end hwf (by omega) (by omega) hfo hT (by have := k3; rw [show x = 0 by omega] at this; exact this) (by have := k4; rw [show x = 0 by omega] at this; exact this); rw [g2, show m_ = σ 13 0 by omega]; exact z⟩)
                  · have et : u3 16 m_ = tbl u3 0 m_ := by unfold tbl; rw [show 16 * 0 + m_ = m_ by omega]
                    have rt := tb_rng k4 (zF_b x) (s := 0) (m := m_) (by omega) (by omega) (by omega) (by omega)
                    refine z_aload_n (pc' := 117) X dX6_leastHarm_116 rfl 2 rfl rfl ?_
                    refine z_get (pc' := 120) (C := RX6) (ref := "PivotBeatsModel") (T := TX6) (N := 19) (v := .ref (q 16)) X dX6_leastHarm_117 rfl hin6 0 rfl rfl 16 (by decide) (by decide +kernel) rfl rfl ?_
                    refine z_iload_n (pc' := 121) X dX6_leastHarm_120 rfl 0 rfl rfl ?_
                    refine z_iald (pc' := 122) (f := u3 16) (n := 112) X dX6_leastHarm_121 rfl 12 rfl (by decide) (by omega) ?_
                    refine z_iload_n (pc' := 123) X dX6_leastHarm_122 rfl 1 rfl rfl ?_
                    refine z_icmp_ge (tgt := 135) (pc' := 126) X dX6_leastHarm_123 (by decide) rfl (by omega) (fun h123 => ?_) (fun h123 => ?_)
                    · refine z_iload_n (pc' := 136) X dX6_leastHarm_135 rfl 1 rfl rfl ?_
                      refine z_istore_n (pc' := 137) (lv' := [(1, .int (jI least)), (2, .int (jI m_)), (0, .ref (q 0))]) X dX6_leastHarm_136 rfl rfl (by decide) rfl ?_
                      refine z_iinc (pc' := 140) (lv' := [(2, .int (jI (m_ + 1))), (1, .int (jI least)), (0, .ref (q 0))]) X dX6_leastHarm_137 rfl 1 rfl (by decide) rfl ?_
                      refine z_goto (tgt := 108) X dX6_leastHarm_140 (by decide) ?_
                      exact ih108 (m_ + 1) least  (⟨by omega, by rw [mnF_succ _ _ g1.1, ← g2, ← et]; omega, by omega⟩) (by omega)
                    · refine z_aload_n (pc' := 127) X dX6_leastHarm_126 rfl 2 rfl rfl ?_
                      refine z_get (pc' := 130) (C := RX6) (ref := "PivotBeatsModel") (T := TX6) (N := 19) (v := .ref (q 16)) X dX6_leastHarm_127 rfl hin6 0 rfl rfl 16 (by decide) (by decide +kernel) rfl rfl ?_
                      refine z_iload_n (pc' := 131) X dX6_leastHarm_130 rfl 0 rfl rfl ?_
                      refine z_iald (pc' := 132) (f := u3 16) (n := 112) X dX6_leastHarm_131 rfl 12 rfl (by decide) (by omega) ?_
                      refine z_goto (tgt := 136) X dX6_leastHarm_132 (by decide) ?_
                      refine z_istore_n (pc' := 137) (lv' := [(1, .int (jI (u3 16 m_))), (2, .int (jI m_)), (0, .ref (q 0))]) X dX6_leastHarm_136 rfl rfl (by decide) rfl ?_
                      refine z_iinc (pc' := 140) (lv' := [(2, .int (jI (m_ + 1))), (1, .int (jI (u3 16 m_))), (0, .ref (q 0))]) X dX6_leastHarm_137 rfl 1 rfl (by decide) rfl ?_
                      refine z_goto (tgt := 108) X dX6_leastHarm_140 (by decide) ?_
                      exact ih108 (m_ + 1) (u3 16 m_)  (⟨by omega, by rw [mnF_succ _ _ g1.1, ← g2, ← et]; omega, by omega⟩) (by omega)
              exact lp108 _ 0 1000000000  (⟨by omega, rfl, by omega⟩) (Nat.lt_succ_self _)
            · have ai := t3 x (by omega) (by omega)
              have bi := t5 x (by omega) (by omega)
              refine z_aload_n (pc' := 82) X dX6_leastHarm_81 rfl 1 rfl rfl ?_
              refine z_aload_n (pc' := 83) X dX6_leastHarm_82 rfl 1 rfl rfl ?_
              refine z_get (pc' := 86) (C := RX6) (ref := "PivotBeatsModel") (T := TX6) (N := 19) (v := .ref (q 11)) X dX6_leastHarm_83 rfl hin6 0 rfl rfl 11 (by decide) (by decide +kernel) rfl rfl ?_
              refine z_iload_n (pc' := 87) X dX6_leastHarm_86 rfl 0 rfl rfl ?_
              refine z_iald (pc' := 88) (f := u3 11) (n := 7) X dX6_leastHarm_87 rfl 8 rfl (by decide) (by omega) ?_
              refine z_aload_n (pc' := 89) X dX6_leastHarm_88 rfl 1 rfl rfl ?_
              refine z_get (pc' := 92) (C := RX6) (ref := "PivotBeatsModel") (T := TX6) (N := 19) (v := .ref (q 12)) X dX6_leastHarm_89 rfl hin6 0 rfl rfl 12 (by decide) (by decide +kernel) rfl rfl ?_
              refine z_iload_n (pc' := 93) X dX6_leastHarm_92 rfl 0 rfl rfl ?_
              refine z_iald (pc' := 94) (f := u3 12) (n := 7) X dX6_leastHarm_93 rfl 9 rfl (by decide) (by omega) ?_
              refine z_callVV (pc' := 97) (S := St) (As := [.int (jI (u3 11 x)), .int (jI (u3 12 x))]) (rest := []) X dX6_leastHarm_94 rfl (kX6_hangs l D E q u3 (u3 11 x) (u3 12 x)  (w3) (by rw [e12, f4]; omega) (by rw [e11, e12]; unfold mA mB; rw [f5]; rcases bi.2.2 with ⟨j, hj, q⟩; rcases q with ⟨q1, q2⟩ | ⟨q1, q2⟩; exact Or.inr q2; exact Or.inl q2) (by rw [f0, f13]; intro s m a1 a2 a3 a4; exact tb_rng k4 (zF_b x) a1 a2 a3 a4)) (cwV 2 X.1.2.2.2.2 gX6_leastHarm_X6_hangs rfl rfl rfl (by decide +kernel) ⟨Nat.le_of_ble_eq_true rfl, Nat.le_of_ble_eq_true rfl⟩) 0 rfl rfl rfl rfl (Nat.le_of_ble_eq_true rfl) (fun u94 hp94 => ?_)
              obtain ⟨hn94, hy94⟩ := hp94
              refine z_iinc (pc' := 100) (lv' := [(1, .int (jI (x + (-1)))), (0, .ref (q 0))]) X dX6_leastHarm_97 rfl 0 rfl (by decide) rfl ?_
              refine z_goto (tgt := 77) X dX6_leastHarm_100 (by decide) ?_
              exact ih77 (x + (-1)) u94  (by have z := lh_step hwf (by omega) rfl (by omega) hfo hT (by omega) k3 k4 rfl (lh_hy k2 hy94); rw [show x + -1 = x - 1 by omega]; exact ⟨by omega, fun F hF => by rw [hn94 F hF, k2 F hF], by rw [show (x - 1).toNat + 1 = x.toNat by omega]; exact z.1, z.2⟩) (by omega)
        exact lp77 _ ((u1 10 0) - 1) u1  (⟨by omega, h2, lh_0 hwf (by omega) hT (by omega) e10 (by rw [← show s_ = σ 0 0 by omega]; exact h3), lh_0b e10 t1 hfo (by rw [← show s_ = σ 0 0 by omega]; exact h3)⟩) (Nat.lt_succ_self _)
      · refine z_iconst (pc' := 11) X dX6_leastHarm_10 rfl ?_
        refine z_istore_n (pc' := 12) (lv' := [(2, .int (jI 0)), (1, .int (jI s_)), (0, .ref (q 0))]) X dX6_leastHarm_11 rfl rfl (by decide) rfl ?_
        have lp12 : ∀ (nF : Nat) (m_ : Int) (u2 : St) , ((0 ≤ m_ ∧ m_ ≤ σ 13 0) ∧ (∀ F, F ≠ 16 → u2 F = σ F) ∧ (∀ s m, 0 ≤ s → s < s_ → 0 ≤ m → m < σ 13 0 → tbl u2 s m = (if σ 15 s = -9 then 0 else if σ 15 s = m then 0 else 1000000000)) ∧ ∀ m, 0 ≤ m → m < m_ → tbl u2 s_ m = (if σ 15 s_ = -9 then 0 else if σ 15 s_ = m then 0 else 1000000000)) → ((16 - m_).toNat : Nat) < nF → J p l e (headSpec wsX6_leastHarm ({ frames := 3, cells := 0, slots := 0, locals := 74 } : Room)).room s m args below meth c D A 3 (MQ below (va_Qi (fun r u => ∃ x, r = jI x ∧ (fun (rv : Int) (uu : St) => ((∀ F, F ≠ 16 → uu F = σ F) ∧ MinH (σ 0 0) (σ 13 0) (σ 15) (HC (σ 4 0).toNat (mA σ) (mV σ) (mB σ) (mW σ) (mE σ) (σ 14)) rv ∧ (0 ≤ rv ∧ rv < 1000000000))) x u) (Bw D (MW E q) A) A) args s 0 0 A) 12 [(2, .int (jI m_)), (1, .int (jI s_)), (0, .ref (q 0))] [] (MW E q u2) := by
          intro nF
          induction nF with
          | zero => intro m_ u2  hI hn; exact absurd hn (Nat.not_lt_zero _)
          | succ nF ih12 =>
            intro m_ u2  hI hn
            obtain ⟨g1, g2, g3, g4⟩ := hI
            have e13 : u2 13 0 = σ 13 0 := by rw [g2 13 (by decide)]
            have e15 : u2 15 = σ 15 := g2 15 (by decide)
            have f15 := hfo s_ (by omega) (by omega)
            refine z_iload_n (pc' := 13) X dX6_leastHarm_12 rfl 0 rfl rfl ?_
            refine z_aload_n (pc' := 14) X dX6_leastHarm_13 rfl 2 rfl rfl ?_
            refine z_get (pc' := 17) (C := RX6) (ref := "PivotBeatsModel") (T := TX6) (N := 19) (v := .int (jI (u2 13 0))) X dX6_leastHarm_14 rfl hin6 0 rfl rfl 13 (by decide) (by decide +kernel) rfl rfl ?_
            refine z_icmp_ge (tgt := 64) (pc' := 20) X dX6_leastHarm_17 (by decide) rfl (by omega) (fun h17 => ?_) (fun h17 => ?_)
            · refine z_iinc (pc' := 67) (lv' := [(1, .int (jI (s_ + 1))), (2, .int (jI m_)), (0, .ref (q 0))]) X dX6_leastHarm_64 rfl 1 rfl (by decide) rfl ?_
              refine z_goto (tgt := 2) X dX6_leastHarm_67 (by decide) ?_
              refine z_lv (lv' := [(1, .int (jI (s_ + 1))), (0, .ref (q 0))]) [0, 2] rfl ?_
              exact ih2 (s_ + 1) u2  (⟨by omega, g2, fun s m a1 a2 a3 a4 => lh_in g3 g4 (by omega) s m a1 a2 a3 a4⟩) (by omega)
            · refine z_aload_n (pc' := 21) X dX6_leastHarm_20 rfl 2 rfl rfl ?_
              refine z_get (pc' := 24) (C := RX6) (ref := "PivotBeatsModel") (T := TX6) (N := 19) (v := .ref (q 16)) X dX6_leastHarm_21 rfl hin6 0 rfl rfl 16 (by decide) (by decide +kernel) rfl rfl ?_
              refine z_bipush (pc' := 26) X dX6_leastHarm_24 rfl rfl ?_
              refine z_iload_n (pc' := 27) X dX6_leastHarm_26 rfl 1 rfl rfl ?_
              refine z_imul (pc' := 28) X dX6_leastHarm_27 rfl ?_
              refine z_iload_n (pc' := 29) X dX6_leastHarm_28 rfl 0 rfl rfl ?_
              refine z_iadd (pc' := 30) X dX6_leastHarm_29 rfl ?_
              refine z_aload_n (pc' := 31) X dX6_leastHarm_30 rfl 2 rfl rfl ?_
              refine z_get (pc' := 34) (C := RX6) (ref := "PivotBeatsModel") (T := TX6) (N := 19) (v := .ref (q 15)) X dX6_leastHarm_31 rfl hin6 0 rfl rfl 15 (by decide) (by decide +kernel) rfl rfl ?_
              refine z_iload_n (pc' := 35) X dX6_leastHarm_34 rfl 1 rfl rfl ?_
              refine z_iald (pc' := 36) (f := u2 15) (n := 7) X dX6_leastHarm_35 rfl 11 rfl (by decide) (by omega) ?_
              refine z_bipush (pc' := 38) X dX6_leastHarm_36 rfl rfl ?_
              refine z_icmp_eq (tgt := 51) (pc' := 41) X dX6_leastHarm_38 (by decide) rfl (by (rw [e15]; omega)) (fun h38 => ?_) (fun h38 => ?_)
              · refine z_iconst (pc' := 52) X dX6_leastHarm_51 rfl ?_
                refine z_goto (tgt := 57) X dX6_leastHarm_52 (by decide) ?_
                refine z_iast (pc' := 58) (f := u2 16) (n := 112) (w' := MW E q (up u2 16 ((16 * s_) + m_) 0)) X dX6_leastHarm_57 rfl 12 rfl (by decide) (by omega) rfl ?_
                refine z_iinc (pc' := 61) (lv' := [(2, .int (jI (m_ + 1))), (1, .int (jI s_)), (0, .ref (q 0))]) X dX6_leastHarm_58 rfl 0 rfl (by decide) rfl ?_
                refine z_goto (tgt := 12) X dX6_leastHarm_61 (by decide) ?_
                exact ih12 (m_ + 1) (up u2 16 ((16 * s_) + m_) 0)  (⟨by omega, fun F hF => by rw [← g2 F hF]; funext i; exact up_f _ _ _ _ hF, lh_a (by omega) (by omega) g3, lh_b g4 (by first | (rw [← e15, if_pos h38]; done) | (rw [← e15, if_neg h38, if_pos h48]; done) | (rw [← e15, if_neg h38, if_neg h48]; done))⟩) (by omega)
              · refine z_aload_n (pc' := 42) X dX6_leastHarm_41 rfl 2 rfl rfl ?_
                refine z_get (pc' := 45) (C := RX6) (ref := "PivotBeatsModel") (T := TX6) (N := 19) (v := .ref (q 15)) X dX6_leastHarm_42 rfl hin6 0 rfl rfl 15 (by decide) (by decide +kernel) rfl rfl ?_
                refine z_iload_n (pc' := 46) X dX6_leastHarm_45 rfl 1 rfl rfl ?_
                refine z_iald (pc' := 47) (f := u2 15) (n := 7) X dX6_leastHarm_46 rfl 11 rfl (by decide) (by omega) ?_
                refine z_iload_n (pc' := 48) X dX6_leastHarm_47 rfl 0 rfl rfl ?_
                refine z_icmp_ne (tgt := 55) (pc' := 51) X dX6_leastHarm_48 (by decide) rfl (by (rw [e15]; omega)) (fun h48 => ?_) (fun h48 => ?_)
                · refine z_ldc (pc' := 57) (x := 1000000000) X dX6_leastHarm_55 rfl (by decide +kernel) rfl ?_
                  refine z_iast (pc' := 58) (f := u2 16) (n := 112) (w' := MW E q (up u2 16 ((16 * s_) + m_) 1000000000)) X dX6_leastHarm_57 rfl 12 rfl (by decide) (by omega) rfl ?_
                  refine z_iinc (pc' := 61) (lv' := [(2, .int (jI (m_ + 1))), (1, .int (jI s_)), (0, .ref (q 0))]) X dX6_leastHarm_58 rfl 0 rfl (by decide) rfl ?_
                  refine z_goto (tgt := 12) X dX6_leastHarm_61 (by decide) ?_
                  exact ih12 (m_ + 1) (up u2 16 ((16 * s_) + m_) 1000000000)  (⟨by omega, fun F hF => by rw [← g2 F hF]; funext i; exact up_f _ _ _ _ hF, lh_a (by omega) (by omega) g3, lh_b g4 (by first | (rw [← e15, if_pos h38]; done) | (rw [← e15, if_neg h38, if_pos h48]; done) | (rw [← e15, if_neg h38, if_neg h48]; done))⟩) (by omega)
                · refine z_iconst (pc' := 52) X dX6_leastHarm_51 rfl ?_
                  refine z_goto (tgt := 57) X dX6_leastHarm_52 (by decide) ?_
                  refine z_iast (pc' := 58) (f := u2 16) (n := 112) (w' := MW E q (up u2 16 ((16 * s_) + m_) 0)) X dX6_leastHarm_57 rfl 12 rfl (by decide) (by omega) rfl ?_
                  refine z_iinc (pc' := 61) (lv' := [(2, .int (jI (m_ + 1))), (1, .int (jI s_)), (0, .ref (q 0))]) X dX6_leastHarm_58 rfl 0 rfl (by decide) rfl ?_
                  refine z_goto (tgt := 12) X dX6_leastHarm_61 (by decide) ?_
                  exact ih12 (m_ + 1) (up u2 16 ((16 * s_) + m_) 0)  (⟨by omega, fun F hF => by rw [← g2 F hF]; funext i; exact up_f _ _ _ _ hF, lh_a (by omega) (by omega) g3, lh_b g4 (by first | (rw [← e15, if_pos h38]; done) | (rw [← e15, if_neg h38, if_pos h48]; done) | (rw [← e15, if_neg h38, if_neg h48]; done))⟩) (by omega)
        exact lp12 _ 0 u1  (⟨by omega, h2, h3, fun m h1 h2 => by omega⟩) (Nat.lt_succ_self _)
  exact lp2 _ 0 σ  (⟨by omega, fun _ _ => rfl, fun s m h1 h2 => by omega⟩) (Nat.lt_succ_self _)
set_option maxHeartbeats 4000000 in
set_option maxRecDepth 100000 in
theorem kX6_findPlay (l : Launch) (D : va_G) (E : Nat → Nat) (q : Nat → Nat) (σ : St) (hwf : WfM σ) : CtI l D E yX6_findPlay wsX6_findPlay ({ frames := 5, cells := 0, slots := 0, locals := 139 } : Room) [.ref (q 0)] (MW E q σ) (MW E q) (fun (rv : Int) (uu : St) => ((rv = 1 ∧ (¬ σ 0 0 = 0 ∧ ¬ σ 13 0 = 0) ∧ (eqM uu σ ∧ SPD uu (σ 4 0) 0) ∧ ∃ xh, FPs (σ 0 0) (σ 13 0) (pinF (σ 14) (σ 13 0) (σ 2)) (HC (σ 4 0).toNat (mA σ) (mV σ) (mB σ) (mW σ) (mE σ) (σ 14)) (fun t => jS (mA σ) (mV σ) (mB σ) (mW σ) (σ 4 0).toNat 0 t = jS (mA σ) (mV σ) (mB σ) (mW σ) (σ 4 0).toNat 0 0) xh (σ 0 0) (uu 15)) ∨ (rv = 0 ∧ (σ 0 0 = 0 ∨ σ 13 0 = 0) ∧ uu = σ))) := by
  refine mk_I (cc := cX6_findPlay) (maxL := 3) (ret := some .boolean) (by decide) rfl (Nat.le_of_ble_eq_true rfl) ?_
  intro p e s m args below meth c A X hret
  have hin6 : ∀ x ∈ u_ws RX6 TX6 19, x ∈ wsX6_findPlay := fun _ h => List.mem_cons_of_mem _ (List.mem_append_right _ h)
  refine z_lv (lv' := [(0, .ref (q 0))]) [0] rfl ?_
  obtain ⟨n0, n3, n4, n13⟩ := hwf.n
  refine z_aload_n (pc' := 1) X dX6_findPlay_0 rfl 0 rfl rfl ?_
  refine z_get (pc' := 4) (C := RX6) (ref := "PivotBeatsModel") (T := TX6) (N := 19) (v := .int (jI (σ 0 0))) X dX6_findPlay_1 rfl hin6 0 rfl rfl 0 (by decide) (by decide +kernel) rfl rfl ?_
  refine z_if_eq (tgt := 14) (pc' := 7) X dX6_findPlay_4 (by decide) rfl (by omega) (fun h4 => ?_) (fun h4 => ?_)
  · refine z_iconst (pc' := 15) X dX6_findPlay_14 rfl ?_
    exact z_zret (post := (fun (rv : Int) (uu : St) => ((rv = 1 ∧ (¬ σ 0 0 = 0 ∧ ¬ σ 13 0 = 0) ∧ (eqM uu σ ∧ SPD uu (σ 4 0) 0) ∧ ∃ xh, FPs (σ 0 0) (σ 13 0) (pinF (σ 14) (σ 13 0) (σ 2)) (HC (σ 4 0).toNat (mA σ) (mV σ) (mB σ) (mW σ) (mE σ) (σ 14)) (fun t => jS (mA σ) (mV σ) (mB σ) (mW σ) (σ 4 0).toNat 0 t = jS (mA σ) (mV σ) (mB σ) (mW σ) (σ 4 0).toNat 0 0) xh (σ 0 0) (uu 15)) ∨ (rv = 0 ∧ (σ 0 0 = 0 ∨ σ 13 0 = 0) ∧ uu = σ)))) X dX6_findPlay_15 hret σ (by first | decide | omega) (Or.inr ⟨rfl, by omega, rfl⟩)
  · refine z_aload_n (pc' := 8) X dX6_findPlay_7 rfl 0 rfl rfl ?_
    refine z_get (pc' := 11) (C := RX6) (ref := "PivotBeatsModel") (T := TX6) (N := 19) (v := .int (jI (σ 13 0))) X dX6_findPlay_8 rfl hin6 0 rfl rfl 13 (by decide) (by decide +kernel) rfl rfl ?_
    refine z_if_ne (tgt := 16) (pc' := 14) X dX6_findPlay_11 (by decide) rfl (by omega) (fun h11 => ?_) (fun h11 => ?_)
    · refine z_aload_n (pc' := 17) X dX6_findPlay_16 rfl 0 rfl rfl ?_
      refine z_iconst (pc' := 18) X dX6_findPlay_17 rfl ?_
      refine z_callVV (pc' := 21) (S := St) (As := [.int (jI 0)]) (rest := []) X dX6_findPlay_18 rfl (kX6_spreadAll l D E q σ 0  (hwf) (by omega)) (cwV 1 X.1.2.2.2.2 gX6_findPlay_X6_spreadAll rfl rfl rfl (by decide +kernel) ⟨Nat.le_of_ble_eq_true rfl, Nat.le_of_ble_eq_true rfl⟩) 0 rfl rfl rfl rfl (Nat.le_of_ble_eq_true rfl) (fun u18 hp18 => ?_)
      obtain ⟨hq18, hs18, hd18⟩ := hp18
      have w18 := hq18.wf hwf
      have e0 : u18 0 0 = σ 0 0 := by rw [hq18.1]
      have e3 : u18 3 0 = σ 3 0 := by rw [hq18.2.2.2.1]
      have e4 : u18 4 0 = σ 4 0 := by rw [hq18.2.2.2.2.1]
      have e13 : u18 13 0 = σ 13 0 := by rw [hq18.2.2.2.2.2.2.1]
      refine z_iconst (pc' := 22) X dX6_findPlay_21 rfl ?_
      refine z_istore_n (pc' := 23) (lv' := [(1, .int (jI 0)), (0, .ref (q 0))]) X dX6_findPlay_22 rfl rfl (by decide) rfl ?_
      have lp23 : ∀ (nF : Nat) (s_ : Int) (u1 : St) , ((0 ≤ s_ ∧ s_ ≤ σ 0 0) ∧ (∀ F, F ≠ 15 → u1 F = u18 F) ∧ ∀ s, 0 ≤ s → s < s_ → u1 15 s = pinF (σ 14) (σ 13 0) (σ 2) s) → ((7 - s_).toNat : Nat) < nF → J p l e (headSpec wsX6_findPlay ({ frames := 5, cells := 0, slots := 0, locals := 139 } : Room)).room s m args below meth c D A 3 (MQ below (va_Qi (fun r u => ∃ x, r = jI x ∧ (fun (rv : Int) (uu : St) => ((rv = 1 ∧ (¬ σ 0 0 = 0 ∧ ¬ σ 13 0 = 0) ∧ (eqM uu σ ∧ SPD uu (σ 4 0) 0) ∧ ∃ xh, FPs (σ 0 0) (σ 13 0) (pinF (σ 14) (σ 13 0) (σ 2)) (HC (σ 4 0).toNat (mA σ) (mV σ) (mB σ) (mW σ) (mE σ) (σ 14)) (fun t => jS (mA σ) (mV σ) (mB σ) (mW σ) (σ 4 0).toNat 0 t = jS (mA σ) (mV σ) (mB σ) (mW σ) (σ 4 0).toNat 0 0) xh (σ 0 0) (uu 15)) ∨ (rv = 0 ∧ (σ 0 0 = 0 ∨ σ 13 0 = 0) ∧ uu = σ))) x u) (Bw D (MW E q) A) A) args s 0 0 A) 23 [(1, .int (jI s_)), (0, .ref (q 0))] [] (MW E q u1) := by
        intro nF
        induction nF with
        | zero => intro s_ u1  hI hn; exact absurd hn (Nat.not_lt_zero _)
        | succ nF ih23 =>
          intro s_ u1  hI hn
          obtain ⟨h1, h2, h3⟩ := hI
          have f0 := fp0 h2
          have f13 := fp13 h2
          have f2 : u1 2 = σ 2 := (h2 2 (by decide)).trans hq18.2.2.1
          have f14 : u1 14 = σ 14 := (h2 14 (by decide)).trans hq18.2.2.2.2.2.2.2
          refine z_iload_n (pc' := 24) X dX6_findPlay_23 rfl 0 rfl rfl ?_
          refine z_aload_n (pc' := 25) X dX6_findPlay_24 rfl 1 rfl rfl ?_
          refine z_get (pc' := 28) (C := RX6) (ref := "PivotBeatsModel") (T := TX6) (N := 19) (v := .int (jI (u1 0 0))) X dX6_findPlay_25 rfl hin6 0 rfl rfl 0 (by decide) (by decide +kernel) rfl rfl ?_
          refine z_icmp_ge (tgt := 66) (pc' := 31) X dX6_findPlay_28 (by decide) rfl (by omega) (fun h28 => ?_) (fun h28 => ?_)
          · have hF : ∀ s, 0 ≤ s → s < σ 0 0 → u1 15 s = pinF (σ 14) (σ 13 0) (σ 2) s := fun s a1 a2 => h3 s a1 (by omega)
            refine z_aload_n (pc' := 67) X dX6_findPlay_66 rfl 1 rfl rfl ?_
            refine z_callVI (pc' := 70) (S := St) (As := []) (rest := []) X dX6_findPlay_67 rfl (kX6_leastHarm l D E q u1   (fpw2 h2 w18) (by rw [fp4 h2, e4]; exact fpd2 h2 hd18) (by rw [fp0 h2, fp13 h2]; omega) (by rw [fp0 h2, fp13 h2, e0, e13]; intro s a1 a2; rw [hF s a1 (by omega)]; exact pinF_rng _ (by omega) _ _)) (cwV 0 X.1.2.2.2.2 gX6_findPlay_X6_leastHarm rfl rfl rfl (by decide +kernel) ⟨Nat.le_of_ble_eq_true rfl, Nat.le_of_ble_eq_true rfl⟩) 0 rfl rfl rfl rfl (Nat.le_of_ble_eq_true rfl) (fun r67 u67 hp67 => ?_)
            obtain ⟨hn67, hmin67, hb67⟩ := hp67
            refine z_istore_n (pc' := 71) (lv' := [(1, .int (jI r67)), (0, .ref (q 0))]) X dX6_findPlay_70 rfl rfl (by decide) rfl ?_
            have hmin0 := fp_min hq18 h2 hmin67 hF
            refine z_iconst (pc' := 72) X dX6_findPlay_71 rfl ?_
            refine z_istore_n (pc' := 73) (lv' := [(2, .int (jI 0)), (1, .int (jI r67)), (0, .ref (q 0))]) X dX6_findPlay_72 rfl rfl (by decide) rfl ?_
            have lp73 : ∀ (nF : Nat) (s_ : Int) (u2 : St) , ((0 ≤ s_ ∧ s_ ≤ σ 0 0) ∧ eqM u2 σ ∧ SPD u2 (σ 4 0) 0 ∧ FPs (σ 0 0) (σ 13 0) (pinF (σ 14) (σ 13 0) (σ 2)) (HC (σ 4 0).toNat (mA σ) (mV σ) (mB σ) (mW σ) (mE σ) (σ 14)) (fun t => jS (mA σ) (mV σ) (mB σ) (mW σ) (σ 4 0).toNat 0 t = jS (mA σ) (mV σ) (mB σ) (mW σ) (σ 4 0).toNat 0 0) r67 s_ (u2 15)) → ((7 - s_).toNat : Nat) < nF → J p l e (headSpec wsX6_findPlay ({ frames := 5, cells := 0, slots := 0, locals := 139 } : Room)).room s m args below meth c D A 3 (MQ below (va_Qi (fun r u => ∃ x, r = jI x ∧ (fun (rv : Int) (uu : St) => ((rv = 1 ∧ (¬ σ 0 0 = 0 ∧ ¬ σ 13 0 = 0) ∧ (eqM uu σ ∧ SPD uu (σ 4 0) 0) ∧ ∃ xh, FPs (σ 0 0) (σ 13 0) (pinF (σ 14) (σ 13 0) (σ 2)) (HC (σ 4 0).toNat (mA σ) (mV σ) (mB σ) (mW σ) (mE σ) (σ 14)) (fun t => jS (mA σ) (mV σ) (mB σ) (mW σ) (σ 4 0).toNat 0 t = jS (mA σ) (mV σ) (mB σ) (mW σ) (σ 4 0).toNat 0 0) xh (σ 0 0) (uu 15)) ∨ (rv = 0 ∧ (σ 0 0 = 0 ∨ σ 13 0 = 0) ∧ uu = σ))) x u) (Bw D (MW E q) A) A) args s 0 0 A) 73 [(2, .int (jI s_)), (1, .int (jI r67)), (0, .ref (q 0))] [] (MW E q u2) := by
              intro nF
              induction nF with
              | zero => intro s_ u2  hI hn; exact absurd hn (Nat.not_lt_zero _)
              | succ nF ih73 =>
                intro s_ u2  hI hn
                obtain ⟨g1, g2, g3, g4⟩ := hI
                have w2 := g2.wf hwf
                have e02 : u2 0 0 = σ 0 0 := by rw [g2.1]
                have e132 : u2 13 0 = σ 13 0 := by rw [g2.2.2.2.2.2.2.1]
                have e42 : u2 4 0 = σ 4 0 := by rw [g2.2.2.2.2.1]
                have hd2 : SPD u2 (u2 4 0) 0 := by rw [e42]; exact g3
                refine z_iload_n (pc' := 74) X dX6_findPlay_73 rfl 0 rfl rfl ?_
                refine z_aload_n (pc' := 75) X dX6_findPlay_74 rfl 2 rfl rfl ?_
                refine z_get (pc' := 78) (C := RX6) (ref := "PivotBeatsModel") (T := TX6) (N := 19) (v := .int (jI (u2 0 0))) X dX6_findPlay_75 rfl hin6 0 rfl rfl 0 (by decide) (by decide +kernel) rfl rfl ?_
                refine z_icmp_ge (tgt := 137) (pc' := 81) X dX6_findPlay_78 (by decide) rfl (by omega) (fun h78 => ?_) (fun h78 => ?_)
                · refine z_iconst (pc' := 138) X dX6_findPlay_137 rfl ?_
                  exact z_zret (post := (fun (rv : Int) (uu : St) => ((rv = 1 ∧ (¬ σ 0 0 = 0 ∧ ¬ σ 13 0 = 0) ∧ (eqM uu σ ∧ SPD uu (σ 4 0) 0) ∧ ∃ xh, FPs (σ 0 0) (σ 13 0) (pinF (σ 14) (σ 13 0) (σ 2)) (HC (σ 4 0).toNat (mA σ) (mV σ) (mB σ) (mW σ) (mE σ) (σ 14)) (fun t => jS (mA σ) (mV σ) (mB σ) (mW σ) (σ 4 0).toNat 0 t = jS (mA σ) (mV σ) (mB σ) (mW σ) (σ 4 0).toNat 0 0) xh (σ 0 0) (uu 15)) ∨ (rv = 0 ∧ (σ 0 0 = 0 ∨ σ 13 0 = 0) ∧ uu = σ)))) X dX6_findPlay_138 hret u2 (by first | decide | omega) (Or.inl ⟨rfl, by omega, ⟨g2, g3⟩, r67, by rw [← show s_ = σ 0 0 by omega] at g4 ⊢; exact g4⟩)
                · have rr := FP_rng g4 s_ (by omega) (by omega)
                  have jv := sp_get hwf g2 g3 (by omega) (x := s_) (by omega)
                  refine z_aload_n (pc' := 82) X dX6_findPlay_81 rfl 2 rfl rfl ?_
                  refine z_get (pc' := 85) (C := RX6) (ref := "PivotBeatsModel") (T := TX6) (N := 19) (v := .ref (q 15)) X dX6_findPlay_82 rfl hin6 0 rfl rfl 15 (by decide) (by decide +kernel) rfl rfl ?_
                  refine z_iload_n (pc' := 86) X dX6_findPlay_85 rfl 0 rfl rfl ?_
                  refine z_iald (pc' := 87) (f := u2 15) (n := 7) X dX6_findPlay_86 rfl 11 rfl (by decide) (by omega) ?_
                  refine z_bipush (pc' := 89) X dX6_findPlay_87 rfl rfl ?_
                  refine z_icmp_ne (tgt := 131) (pc' := 92) X dX6_findPlay_89 (by decide) rfl (by omega) (fun h89 => ?_) (fun h89 => ?_)
                  · refine z_iinc (pc' := 134) (lv' := [(2, .int (jI (s_ + 1))), (1, .int (jI r67)), (0, .ref (q 0))]) X dX6_findPlay_131 rfl 0 rfl (by decide) rfl ?_
                    refine z_goto (tgt := 73) X dX6_findPlay_134 (by decide) ?_
                    exact ih73 (s_ + 1) u2  (by first | exact ⟨by omega, g2, g3, FP_skip g4 (by omega) (Or.inl h89)⟩ | exact ⟨by omega, g2, g3, FP_skip g4 (by omega) (Or.inr (jv.2.2 (by omega)))⟩ | exact ⟨by omega, fpq5 m2 hn111 g2, fpd5 m2 hn111 g3, FP_eq g4 (by omega) h89 hpl m1 m4 (by rw [hn111 15 (by decide)]; exact m3) (by rw [hn111 15 (by decide), ← h115]; exact hmin1)⟩) (by omega)
                  · refine z_aload_n (pc' := 93) X dX6_findPlay_92 rfl 2 rfl rfl ?_
                    refine z_get (pc' := 96) (C := RX6) (ref := "PivotBeatsModel") (T := TX6) (N := 19) (v := .ref (q 7)) X dX6_findPlay_93 rfl hin6 0 rfl rfl 7 (by decide) (by decide +kernel) rfl rfl ?_
                    refine z_iload_n (pc' := 97) X dX6_findPlay_96 rfl 0 rfl rfl ?_
                    refine z_lald (pc' := 98) (f := u2 7) (n := 7) X dX6_findPlay_97 rfl 5 rfl (by decide) (by omega) ?_
                    refine z_lconst (pc' := 99) (x := 0) X dX6_findPlay_98 rfl rfl ?_
                    refine z_lcmp_le (tgt := 131) (pc' := 103) X dX6_findPlay_99 (pc1 := 100) rfl dX6_findPlay_100 (by decide) rfl (by omega) (fun h99 => ?_) (fun h99 => ?_)
                    · refine z_iinc (pc' := 134) (lv' := [(2, .int (jI (s_ + 1))), (1, .int (jI r67)), (0, .ref (q 0))]) X dX6_findPlay_131 rfl 0 rfl (by decide) rfl ?_
                      refine z_goto (tgt := 73) X dX6_findPlay_134 (by decide) ?_
                      exact ih73 (s_ + 1) u2  (by first | exact ⟨by omega, g2, g3, FP_skip g4 (by omega) (Or.inl h89)⟩ | exact ⟨by omega, g2, g3, FP_skip g4 (by omega) (Or.inr (jv.2.2 (by omega)))⟩ | exact ⟨by omega, fpq5 m2 hn111 g2, fpd5 m2 hn111 g3, FP_eq g4 (by omega) h89 hpl m1 m4 (by rw [hn111 15 (by decide)]; exact m3) (by rw [hn111 15 (by decide), ← h115]; exact hmin1)⟩) (by omega)
                    · have hpl : jS (mA σ) (mV σ) (mB σ) (mW σ) (σ 4 0).toNat 0 s_ = jS (mA σ) (mV σ) (mB σ) (mW σ) (σ 4 0).toNat 0 0 := (jv.2.1 (by omega)).1
                      refine z_aload_n (pc' := 104) X dX6_findPlay_103 rfl 2 rfl rfl ?_
                      refine z_get (pc' := 107) (C := RX6) (ref := "PivotBeatsModel") (T := TX6) (N := 19) (v := .ref (q 15)) X dX6_findPlay_104 rfl hin6 0 rfl rfl 15 (by decide) (by decide +kernel) rfl rfl ?_
                      refine z_iload_n (pc' := 108) X dX6_findPlay_107 rfl 0 rfl rfl ?_
                      refine z_iconst (pc' := 109) X dX6_findPlay_108 rfl ?_
                      refine z_iast (pc' := 110) (f := u2 15) (n := 7) (w' := MW E q (up u2 15 s_ 0)) X dX6_findPlay_109 rfl 11 rfl (by decide) (by omega) rfl ?_
                      have lp110 : ∀ (nF : Nat) (u3 : St) (m_ : Int), ((0 ≤ m_ ∧ m_ < σ 13 0) ∧ (∀ F, F ≠ 15 → F ≠ 16 → u3 F = u2 F) ∧ (∀ t, u3 15 t = if t = s_ then m_ else u2 15 t) ∧ (∀ m, 0 ≤ m → m < m_ → noBest (σ 0 0) (σ 13 0) (pinF (σ 14) (σ 13 0) (σ 2)) (HC (σ 4 0).toNat (mA σ) (mV σ) (mB σ) (mW σ) (mE σ) (σ 14)) (fun t => jS (mA σ) (mV σ) (mB σ) (mW σ) (σ 4 0).toNat 0 t = jS (mA σ) (mV σ) (mB σ) (mW σ) (σ 4 0).toNat 0 0) r67 (u2 15) s_ m)) → ((σ 13 0 - m_).toNat : Nat) < nF → J p l e (headSpec wsX6_findPlay ({ frames := 5, cells := 0, slots := 0, locals := 139 } : Room)).room s m args below meth c D A 3 (MQ below (va_Qi (fun r u => ∃ x, r = jI x ∧ (fun (rv : Int) (uu : St) => ((rv = 1 ∧ (¬ σ 0 0 = 0 ∧ ¬ σ 13 0 = 0) ∧ (eqM uu σ ∧ SPD uu (σ 4 0) 0) ∧ ∃ xh, FPs (σ 0 0) (σ 13 0) (pinF (σ 14) (σ 13 0) (σ 2)) (HC (σ 4 0).toNat (mA σ) (mV σ) (mB σ) (mW σ) (mE σ) (σ 14)) (fun t => jS (mA σ) (mV σ) (mB σ) (mW σ) (σ 4 0).toNat 0 t = jS (mA σ) (mV σ) (mB σ) (mW σ) (σ 4 0).toNat 0 0) xh (σ 0 0) (uu 15)) ∨ (rv = 0 ∧ (σ 0 0 = 0 ∨ σ 13 0 = 0) ∧ uu = σ))) x u) (Bw D (MW E q) A) A) args s 0 0 A) 110 [(2, .int (jI s_)), (1, .int (jI r67)), (0, .ref (q 0))] [] (MW E q u3) := by
                        intro nF
                        induction nF with
                        | zero => intro u3 m_ hI hn; exact absurd hn (Nat.not_lt_zero _)
                        | succ nF ih110 =>
                          intro u3 m_ hI hn
                          obtain ⟨m1, m2, m3, m4⟩ := hI
                          refine z_aload_n (pc' := 111) X dX6_findPlay_110 rfl 2 rfl rfl ?_
                          refine z_callVI (pc' := 114) (S := St) (As := []) (rest := []) X dX6_findPlay_111 rfl (kX6_leastHarm l D E q u3   (fpw3 m2 w2) (by rw [fpG m2 4 (by decide) (by decide), e42]; exact fpd3 m2 g3) (by rw [fpG m2 0 (by decide) (by decide), fpG m2 13 (by decide) (by decide)]; omega) (by rw [fpG m2 0 (by decide) (by decide), fpG m2 13 (by decide) (by decide), e02, e132]; exact fpf g4 m1 m3)) (cwV 0 X.1.2.2.2.2 gX6_findPlay_X6_leastHarm rfl rfl rfl (by decide +kernel) ⟨Nat.le_of_ble_eq_true rfl, Nat.le_of_ble_eq_true rfl⟩) 0 rfl rfl rfl rfl (Nat.le_of_ble_eq_true rfl) (fun r111 u111 hp111 => ?_)
                          obtain ⟨hn111, hmin111, hb111⟩ := hp111
                          have hmin1 := fp_min3 g2 m2 hmin111
                          refine z_iload_n (pc' := 115) X dX6_findPlay_114 rfl 1 rfl rfl ?_
                          refine z_icmp_eq (tgt := 131) (pc' := 118) X dX6_findPlay_115 (by decide) rfl (by omega) (fun h115 => ?_) (fun h115 => ?_)
                          · refine z_iinc (pc' := 134) (lv' := [(2, .int (jI (s_ + 1))), (1, .int (jI r67)), (0, .ref (q 0))]) X dX6_findPlay_131 rfl 0 rfl (by decide) rfl ?_
                            refine z_goto (tgt := 73) X dX6_findPlay_134 (by decide) ?_
                            exact ih73 (s_ + 1) u111  (by first | exact ⟨by omega, g2, g3, FP_skip g4 (by omega) (Or.inl h89)⟩ | exact ⟨by omega, g2, g3, FP_skip g4 (by omega) (Or.inr (jv.2.2 (by omega)))⟩ | exact ⟨by omega, fpq5 m2 hn111 g2, fpd5 m2 hn111 g3, FP_eq g4 (by omega) h89 hpl m1 m4 (by rw [hn111 15 (by decide)]; exact m3) (by rw [hn111 15 (by decide), ← h115]; exact hmin1)⟩) (by omega)
                          · refine z_aload_n (pc' := 119) X dX6_findPlay_118 rfl 2 rfl rfl ?_
                            refine z_get (pc' := 122) (C := RX6) (ref := "PivotBeatsModel") (T := TX6) (N := 19) (v := .ref (q 15)) X dX6_findPlay_119 rfl hin6 0 rfl rfl 15 (by decide) (by decide +kernel) rfl rfl ?_
                            refine z_iload_n (pc' := 123) X dX6_findPlay_122 rfl 0 rfl rfl ?_
                            refine z_dup2 (pc' := 124) X dX6_findPlay_123 rfl ⟨rfl, rfl⟩ ?_
                            refine z_iald (pc' := 125) (f := u111 15) (n := 7) X dX6_findPlay_124 rfl 11 rfl (by decide) (by omega) ?_
                            refine z_iconst (pc' := 126) X dX6_findPlay_125 rfl ?_
                            refine z_iadd (pc' := 127) X dX6_findPlay_126 rfl ?_
                            refine z_iast (pc' := 128) (f := u111 15) (n := 7) (w' := MW E q (up u111 15 s_ ((u111 15 s_) + 1))) X dX6_findPlay_127 rfl 11 rfl (by decide) (by omega) rfl ?_
                            refine z_goto (tgt := 110) X dX6_findPlay_128 (by decide) ?_
                            exact ih110 (up u111 15 s_ ((u111 15 s_) + 1)) (m_ + 1) (by have nb := FP_ne g4 (by omega) h89 m1 m4 m3 hmin1 h115; exact ⟨⟨by omega, FP_more g4 (by omega) nb⟩, fun F a1 a2 => by rw [← m2 F a1 a2, ← hn111 F a2]; funext i; exact up_f _ _ _ _ a1, fp_inc m3 (hn111 15 (by decide)), nb⟩) (by omega)
                      exact lp110 _ (up u2 15 s_ 0) 0 (⟨by omega, fun F a1 a2 => by funext i; exact up_f _ _ _ _ a1, fun t => up_i _ _ _ _ _, fun m a1 a2 => by omega⟩) (Nat.lt_succ_self _)
            exact lp73 _ 0 u67  (⟨by omega, fpq2 h2 hn67 hq18, fpd4 h2 hn67 hd18, fp_init hmin0 (by rw [hn67 15 (by decide)]; exact hF) (by omega)⟩) (Nat.lt_succ_self _)
          · have wf1 := fpw2 h2 w18
            refine z_aload_n (pc' := 32) X dX6_findPlay_31 rfl 1 rfl rfl ?_
            refine z_get (pc' := 35) (C := RX6) (ref := "PivotBeatsModel") (T := TX6) (N := 19) (v := .ref (q 15)) X dX6_findPlay_32 rfl hin6 0 rfl rfl 15 (by decide) (by decide +kernel) rfl rfl ?_
            refine z_iload_n (pc' := 36) X dX6_findPlay_35 rfl 0 rfl rfl ?_
            refine z_aload_n (pc' := 37) X dX6_findPlay_36 rfl 1 rfl rfl ?_
            refine z_iload_n (pc' := 38) X dX6_findPlay_37 rfl 0 rfl rfl ?_
            refine z_callVI (pc' := 41) (S := St) (As := [.int (jI s_)]) (rest := [.int (jI s_), .ref (q 15)]) X dX6_findPlay_38 rfl (kX6_isPinHeld l D E q u1 s_  (wf1) (by omega)) (cwV 1 X.1.2.2.2.2 gX6_findPlay_X6_isPinHeld rfl rfl rfl (by decide +kernel) ⟨Nat.le_of_ble_eq_true rfl, Nat.le_of_ble_eq_true rfl⟩) 0 rfl rfl rfl rfl (Nat.le_of_ble_eq_true rfl) (fun r38 u38 hp38 => ?_)
            obtain ⟨rfl, hp38⟩ := hp38
            refine z_if_eq (tgt := 57) (pc' := 44) X dX6_findPlay_41 (by decide) rfl (by (have := pnH_01 (u1 13 0) (u1 14) (u1 2 s_); omega)) (fun h41 => ?_) (fun h41 => ?_)
            · refine z_bipush (pc' := 59) X dX6_findPlay_57 rfl rfl ?_
              refine z_iast (pc' := 60) (f := u1 15) (n := 7) (w' := MW E q (up u1 15 s_ (-9))) X dX6_findPlay_59 rfl 11 rfl (by decide) (by omega) rfl ?_
              refine z_iinc (pc' := 63) (lv' := [(1, .int (jI (s_ + 1))), (0, .ref (q 0))]) X dX6_findPlay_60 rfl 0 rfl (by decide) rfl ?_
              refine z_goto (tgt := 23) X dX6_findPlay_63 (by decide) ?_
              exact ih23 (s_ + 1) (up u1 15 s_ (-9))  (⟨by omega, fun F hF => by rw [← h2 F hF]; funext i; exact up_f _ _ _ _ hF, fp_pin h3 (by first | exact fp_p1 hwf (by omega) hp38 h41 f13 f14 f2 e13 | exact fp_p2 f13 f14 f2 e13)⟩) (by omega)
            · refine z_aload_n (pc' := 45) X dX6_findPlay_44 rfl 1 rfl rfl ?_
              refine z_aload_n (pc' := 46) X dX6_findPlay_45 rfl 1 rfl rfl ?_
              refine z_get (pc' := 49) (C := RX6) (ref := "PivotBeatsModel") (T := TX6) (N := 19) (v := .ref (q 2)) X dX6_findPlay_46 rfl hin6 0 rfl rfl 2 (by decide) (by decide +kernel) rfl rfl ?_
              refine z_iload_n (pc' := 50) X dX6_findPlay_49 rfl 0 rfl rfl ?_
              refine z_iald (pc' := 51) (f := u1 2) (n := 7) X dX6_findPlay_50 rfl 2 rfl (by decide) (by omega) ?_
              refine z_callVI (pc' := 54) (S := St) (As := [.int (jI (u1 2 s_))]) (rest := [.int (jI s_), .ref (q 15)]) X dX6_findPlay_51 rfl (kX6_placeOf l D E q u1 (u1 2 s_)  (wf1) (by rw [f2]; have := hwf.2.2.1 s_ (by omega) (by omega); omega)) (cwV 1 X.1.2.2.2.2 gX6_findPlay_X6_placeOf rfl rfl rfl (by decide +kernel) ⟨Nat.le_of_ble_eq_true rfl, Nat.le_of_ble_eq_true rfl⟩) 0 rfl rfl rfl rfl (Nat.le_of_ble_eq_true rfl) (fun r51 u51 hp51 => ?_)
              obtain ⟨rfl, hp51⟩ := hp51; replace hp51 := hp51.symm; subst hp51
              refine z_goto (tgt := 59) X dX6_findPlay_54 (by decide) ?_
              refine z_iast (pc' := 60) (f := u1 15) (n := 7) (w' := MW E q (up u1 15 s_ (ixF (u1 14) (u1 2 s_) (u1 13 0).toNat))) X dX6_findPlay_59 rfl 11 rfl (by decide) (by omega) rfl ?_
              refine z_iinc (pc' := 63) (lv' := [(1, .int (jI (s_ + 1))), (0, .ref (q 0))]) X dX6_findPlay_60 rfl 0 rfl (by decide) rfl ?_
              refine z_goto (tgt := 23) X dX6_findPlay_63 (by decide) ?_
              exact ih23 (s_ + 1) (up u1 15 s_ (ixF (u1 14) (u1 2 s_) (u1 13 0).toNat))  (⟨by omega, fun F hF => by rw [← h2 F hF]; funext i; exact up_f _ _ _ _ hF, fp_pin h3 (by first | exact fp_p1 hwf (by omega) hp38 h41 f13 f14 f2 e13 | exact fp_p2 f13 f14 f2 e13)⟩) (by omega)
      exact lp23 _ 0 u18  (⟨by omega, fun _ _ => rfl, fun s h1 h2 => by omega⟩) (Nat.lt_succ_self _)
    · refine z_iconst (pc' := 15) X dX6_findPlay_14 rfl ?_
      exact z_zret (post := (fun (rv : Int) (uu : St) => ((rv = 1 ∧ (¬ σ 0 0 = 0 ∧ ¬ σ 13 0 = 0) ∧ (eqM uu σ ∧ SPD uu (σ 4 0) 0) ∧ ∃ xh, FPs (σ 0 0) (σ 13 0) (pinF (σ 14) (σ 13 0) (σ 2)) (HC (σ 4 0).toNat (mA σ) (mV σ) (mB σ) (mW σ) (mE σ) (σ 14)) (fun t => jS (mA σ) (mV σ) (mB σ) (mW σ) (σ 4 0).toNat 0 t = jS (mA σ) (mV σ) (mB σ) (mW σ) (σ 4 0).toNat 0 0) xh (σ 0 0) (uu 15)) ∨ (rv = 0 ∧ (σ 0 0 = 0 ∨ σ 13 0 = 0) ∧ uu = σ)))) X dX6_findPlay_15 hret σ (by first | decide | omega) (Or.inr ⟨rfl, by omega, rfl⟩)
