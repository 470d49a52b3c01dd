/-! ===== the reference's state: what holds of it ===== -/
def mA (σ : St) : Int → Int := fun k => σ 5 (5 * k)
def mV (σ : St) : Int → Int := fun k => σ 5 (5 * k + 1)
def mB (σ : St) : Int → Int := fun k => σ 5 (5 * k + 2)
def mW (σ : St) : Int → Int := fun k => σ 5 (5 * k + 3)
def mE (σ : St) : Int → Int := fun k => σ 5 (5 * k + 4)
/-- of numbers of SECTIONS, BEATS, PINS, START, TIES, MARKS: all as the document has them -/
def Wf (nS : Int) (bt pn : Int → Int) (st nT : Int) (a v b w er : Int → Int) (nM : Int) (mk : Int → Int) : Prop :=
  (0 ≤ nS ∧ nS ≤ 7) ∧ (∀ s, 0 ≤ s → s < nS → 1 ≤ bt s ∧ bt s ≤ 99) ∧ (∀ s, 0 ≤ s → s < nS → pn s = -9 ∨ (20 ≤ pn s ∧ pn s ≤ 400)) ∧ (20 ≤ st ∧ st ≤ 400) ∧ (0 ≤ nT ∧ nT ≤ 12) ∧
  (∀ k, 0 ≤ k → k < nT → (0 ≤ a k ∧ a k < nS) ∧ (0 ≤ v k ∧ v k < 20) ∧ (0 ≤ b k ∧ b k < nS) ∧ (0 ≤ w k ∧ w k < 20) ∧ (0 ≤ er k ∧ er k ≤ 9) ∧ a k ≠ b k) ∧
  (0 ≤ nM ∧ nM ≤ 16) ∧ (∀ i, 0 ≤ i → i < nM → 20 ≤ mk i ∧ mk i ≤ 400) ∧ (∀ i, 0 ≤ i → i + 1 < nM → mk i < mk (i + 1))
def WfM (σ : St) : Prop := Wf (σ 0 0) (σ 1) (σ 2) (σ 3 0) (σ 4 0) (mA σ) (mV σ) (mB σ) (mW σ) (mE σ) (σ 13 0) (σ 14)
/-- the same but for what is only written down for a while -/
def eqM (τ σ : St) : Prop := τ 0 = σ 0 ∧ τ 1 = σ 1 ∧ τ 2 = σ 2 ∧ τ 3 = σ 3 ∧ τ 4 = σ 4 ∧ τ 5 = σ 5 ∧ τ 13 = σ 13 ∧ τ 14 = σ 14
theorem eqM.rf (σ : St) : eqM σ σ := ⟨rfl, rfl, rfl, rfl, rfl, rfl, rfl, rfl⟩
theorem eqM.tr {ρ τ σ : St} (h1 : eqM ρ τ) (h2 : eqM τ σ) : eqM ρ σ := by
  obtain ⟨a0, a1, a2, a3, a4, a5, a6, a7⟩ := h1
  obtain ⟨b0, b1, b2, b3, b4, b5, b6, b7⟩ := h2
  exact ⟨a0.trans b0, a1.trans b1, a2.trans b2, a3.trans b3, a4.trans b4, a5.trans b5, a6.trans b6, a7.trans b7⟩
theorem eqM.ties {τ σ : St} (h : eqM τ σ) : mA τ = mA σ ∧ mV τ = mV σ ∧ mB τ = mB σ ∧ mW τ = mW σ ∧ mE τ = mE σ := by
  obtain ⟨-, -, -, -, -, h5, -, -⟩ := h
  unfold mA mV mB mW mE
  rw [h5]
  exact ⟨rfl, rfl, rfl, rfl, rfl⟩
theorem eqM.wf {τ σ : St} (h : eqM τ σ) (hw : WfM σ) : WfM τ := by
  obtain ⟨t1, t2, t3, t4, t5⟩ := h.ties
  obtain ⟨h0, h1, h2, h3, h4, h5, h6, h7⟩ := h
  unfold WfM
  rw [t1, t2, t3, t4, t5, h0, h1, h2, h3, h4, h6, h7]
  exact hw
theorem WfM.tok {σ : St} (h : WfM σ) : tOk (mA σ) (mV σ) (mB σ) (mW σ) (σ 4 0).toNat := by
  obtain ⟨h1, -, -, -, h5, h6, -⟩ := h
  intro k hk
  obtain ⟨q1, q2, q3, q4, -⟩ := h6 k (by omega) (by omega)
  exact ⟨by omega, by omega, q2, q4⟩
theorem WfM.tie {σ : St} (h : WfM σ) {k : Int} (h0 : 0 ≤ k) (h1 : k < σ 4 0) : (0 ≤ σ 5 (5 * k) ∧ σ 5 (5 * k) < σ 0 0) ∧ (0 ≤ σ 5 (5 * k + 1) ∧ σ 5 (5 * k + 1) < 20) ∧ (0 ≤ σ 5 (5 * k + 2) ∧ σ 5 (5 * k + 2) < σ 0 0) ∧ (0 ≤ σ 5 (5 * k + 3) ∧ σ 5 (5 * k + 3) < 20) ∧ (0 ≤ σ 5 (5 * k + 4) ∧ σ 5 (5 * k + 4) ≤ 9) ∧ σ 5 (5 * k) ≠ σ 5 (5 * k + 2) := h.2.2.2.2.2.1 k h0 h1
theorem WfM.n {σ : St} (h : WfM σ) : (0 ≤ σ 0 0 ∧ σ 0 0 ≤ 7) ∧ (20 ≤ σ 3 0 ∧ σ 3 0 ≤ 400) ∧ (0 ≤ σ 4 0 ∧ σ 4 0 ≤ 12) ∧ (0 ≤ σ 13 0 ∧ σ 13 0 ≤ 16) := ⟨h.1, h.2.2.2.1, h.2.2.2.2.1, h.2.2.2.2.2.2.1⟩
/-- the sorts that are written down are right, for the first m TIES -/
def srt (σ : St) (m : Int) : Prop := ∀ k : Nat, (k : Int) < m → σ 6 k = jK (mA σ) (mV σ) (mB σ) (mW σ) k
/-- behind spread(f, m) -/
def SPD (σ : St) (m : Int) (f : Int) : Prop := SPI (mA σ) (mV σ) (mB σ) (mW σ) m.toNat f σ ∧ SPc (mA σ) (mV σ) (mB σ) (mW σ) σ m
