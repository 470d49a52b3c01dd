/-! ===== pure: plays: the least harm, the first of the best ===== -/
def mnF (f : Int → Int) (top : Int) : Nat → Int
  | 0 => top
  | n + 1 => min (mnF f top n) (f n)
theorem mnF_succ (f : Int → Int) (top : Int) {k : Int} (h : 0 ≤ k) : mnF f top (k + 1).toNat = min (mnF f top k.toNat) (f k) := by
  rw [show (k + 1).toNat = k.toNat + 1 by omega]
  show min (mnF f top k.toNat) (f ((k.toNat : Nat) : Int)) = _
  rw [show ((k.toNat : Nat) : Int) = k by omega]
theorem mnF_is (f : Int → Int) (top : Int) : ∀ n : Nat, mnF f top n ≤ top ∧ (∀ x : Int, 0 ≤ x → x < n → mnF f top n ≤ f x) ∧ (mnF f top n = top ∨ ∃ x : Int, (0 ≤ x ∧ x < n) ∧ mnF f top n = f x) := by
  intro n
  induction n with
  | zero => exact ⟨Int.le_refl _, fun x h0 h1 => by omega, Or.inl rfl⟩
  | succ n ih =>
    obtain ⟨i1, i2, i3⟩ := ih
    show min (mnF f top n) (f n) ≤ top ∧ (∀ x : Int, 0 ≤ x → x < ((n + 1 : Nat) : Int) → min (mnF f top n) (f n) ≤ f x) ∧ (min (mnF f top n) (f n) = top ∨ ∃ x : Int, (0 ≤ x ∧ x < ((n + 1 : Nat) : Int)) ∧ min (mnF f top n) (f n) = f x)
    refine ⟨by omega, fun x x0 x1 => ?_, ?_⟩
    · by_cases q : x = n
      · rw [q]; omega
      · have := i2 x x0 (by omega); omega
    · by_cases q : f n < mnF f top n
      · right; exact ⟨n, by omega, by omega⟩
      · rcases i3 with r | ⟨x, r1, r2⟩
        · left; omega
        · right; exact ⟨x, by omega, by omega⟩
def drF (v w : Int → Int) (k m1 m2 : Int) : Int := ((m2 * tk (v k) - m1 * tk (w k)).natAbs : Int)
def hmF (v w er mk : Int → Int) (k i j : Int) : Int := er k * drF v w k (mk i) (mk j)
/-- harm of all kept TIES that are played -/
def HC (n : Nat) (a v b w er mk : Int → Int) (g : Int → Int) : Int := smI (fun k => if jK a v b w k.toNat = 0 then (if jS a v b w n 0 (a k) = jS a v b w n 0 0 then hmF v w er mk k (g (a k)) (g (b k)) else 0) else 0) n
def ALf (nM : Int) (fo : Int → Int) (s m : Int) : Prop := (0 ≤ m ∧ m < nM) ∧ (fo s = -9 ∨ m = fo s)
def MinH (nS nM : Int) (fo : Int → Int) (H : (Int → Int) → Int) (x : Int) : Prop := (∀ g, aOk nS (ALf nM fo) g → x ≤ H g) ∧ ∃ g, aOk nS (ALf nM fo) g ∧ H g = x
theorem MinH_one {nS nM : Int} {fo : Int → Int} {H : (Int → Int) → Int} {x y : Int} (h1 : MinH nS nM fo H x) (h2 : MinH nS nM fo H y) : x = y := by
  obtain ⟨a1, g1, b1, c1⟩ := h1
  obtain ⟨a2, g2, b2, c2⟩ := h2
  have := a1 g2 b2
  have := a2 g1 b1
  omega
/-- the first of the best: by pins fo, of those that are played -/
def FBP (nS nM : Int) (fo : Int → Int) (H : (Int → Int) → Int) (pl : Int → Prop) (G : Int → Int) (x : Int) : Prop :=
  MinH nS nM fo H x ∧ (∃ g, aOk nS (ALf nM fo) g ∧ H g = x ∧ ∀ t, 0 ≤ t → t < nS → pl t → g t = G t) ∧ ∀ t, 0 ≤ t → t < nS → pl t → ∀ m, 0 ≤ m → m < G t → ¬ ∃ g, aOk nS (ALf nM fo) g ∧ H g = x ∧ (∀ t', 0 ≤ t' → t' < t → pl t' → g t' = G t') ∧ g t = m
theorem FBP_one {nS nM : Int} {fo : Int → Int} {H : (Int → Int) → Int} {pl : Int → Prop} {G G' : Int → Int} {x y : Int} (h1 : FBP nS nM fo H pl G x) (h2 : FBP nS nM fo H pl G' y) : x = y ∧ ∀ t, 0 ≤ t → t < nS → pl t → G t = G' t := by
  obtain ⟨m1, ⟨g1, o1, e1, k1⟩, f1⟩ := h1
  obtain ⟨m2, ⟨g2, o2, e2, k2⟩, f2⟩ := h2
  have exy := MinH_one m1 m2
  subst exy
  refine ⟨rfl, ?_⟩
  have key : ∀ n : Nat, ∀ t : Int, t.toNat = n → 0 ≤ t → t < nS → pl t → G t = G' t := by
    intro n
    induction n using Nat.strongRecOn with
    | _ n ih =>
      intro t hn t0 t1 pt
      have low : ∀ t', 0 ≤ t' → t' < t → pl t' → G t' = G' t' := fun t' a1 a2 a3 => ih t'.toNat (by omega) t' rfl a1 (by omega) a3
      have r1 := (o1 t t0 t1).1
      have r2 := (o2 t t0 t1).1
      rw [k1 t t0 t1 pt] at r1
      rw [k2 t t0 t1 pt] at r2
      by_cases q : G t < G' t
      · exact absurd ⟨g1, o1, e1, fun t' a1 a2 a3 => by rw [k1 t' a1 (by omega) a3, low t' a1 a2 a3], k1 t t0 t1 pt⟩ (f2 t t0 t1 pt (G t) r1.1 q)
      · by_cases q2 : G' t < G t
        · exact absurd ⟨g2, o2, e2, fun t' a1 a2 a3 => by rw [k2 t' a1 (by omega) a3, low t' a1 a2 a3], k2 t t0 t1 pt⟩ (f1 t t0 t1 pt (G' t) r2.1 q2)
        · omega
  exact fun t t0 t1 pt => key t.toNat t rfl t0 t1 pt
/-- from a tree's sum to the sum over all TIES -/
theorem HC_tree {a v b w er mk at_ by_ : Int → Int} {n : Nat} {c r : Int} (h : TF a v b w n r c at_ by_) (hN : tOk a v b w n) (hr : jS a v b w n 0 r = jS a v b w n 0 0) (g : Int → Int) : smI (hT a b (hmF v w er mk) by_ g) (c.toNat - 1) = HC n a v b w er mk g := by
  have := TF_sum h hN (fun k => hmF v w er mk k (g (a k)) (g (b k)))
  rw [hr] at this
  exact this
theorem hmF_rng {v w er mk : Int → Int} {k i j : Int} (hv : 0 ≤ v k ∧ v k < 20) (hw : 0 ≤ w k ∧ w k < 20) (he : 0 ≤ er k ∧ er k ≤ 9) (hi : 20 ≤ mk i ∧ mk i ≤ 400) (hj : 20 ≤ mk j ∧ mk j ≤ 400) : (0 ≤ drF v w k (mk i) (mk j) ∧ drF v w k (mk i) (mk j) ≤ 57600) ∧ (0 ≤ hmF v w er mk k i j ∧ hmF v w er mk k i j ≤ 518400) := by
  have t1 := tk_rng hv
  have t2 := tk_rng hw
  have p1 := mul_bd (a := mk j) (b := tk (v k)) (A := 400) (B := 144) (by omega) (by omega)
  have p2 := mul_bd (a := mk i) (b := tk (w k)) (A := 400) (B := 144) (by omega) (by omega)
  have d : 0 ≤ drF v w k (mk i) (mk j) ∧ drF v w k (mk i) (mk j) ≤ 57600 := by unfold drF; omega
  have p3 := mul_bd (a := er k) (b := drF v w k (mk i) (mk j)) (A := 9) (B := 57600) (by omega) d
  exact ⟨d, by unfold hmF; omega⟩
theorem SPD_TF {σ : St} {f : Int} (hwf : WfM σ) (hd : SPD σ (σ 4 0) f) (hf : 0 ≤ f ∧ f < 7) : TF (mA σ) (mV σ) (mB σ) (mW σ) (σ 4 0).toNat f (σ 10 0) (σ 11) (σ 12) := by
  have n4 := hwf.n.2.2.1
  obtain ⟨d1, d2⟩ := hd
  have d2' : SPc (mA σ) (mV σ) (mB σ) (mW σ) σ ((σ 4 0).toNat : Int) := by rw [show (((σ 4 0).toNat : Nat) : Int) = σ 4 0 by omega]; exact d2
  have hm := fun x hx => SP_met d1 d2' (x := x) hx
  obtain ⟨h1, h2, h3, h4, ⟨h5, h5'⟩, ⟨h6, h7, h8⟩, h9⟩ := d1
  refine ⟨h1, h5, fun i i0 i1 => (h6 i i0 i1).1, h7, h9, fun x hx => ?_⟩
  rw [← hm x hx]
  constructor
  · intro q
    obtain ⟨i, i0, i1, i2⟩ := h8 x hx q
    exact ⟨i, ⟨i0, i1⟩, i2⟩
  · rintro ⟨i, ⟨i0, i1⟩, i2⟩
    rw [← i2]
    exact (h6 i i0 i1).2
/-- the ends of a tree's TIES are among those ahead -/
theorem TR_low {a v b w at_ by_ : Int → Int} {n : Nat} {c : Int} (h : TR a v b w n c at_ by_) {t : Int} (h1 : 1 ≤ t) (h2 : t < c) : (∃ r, (0 ≤ r ∧ r < t + 1) ∧ a (by_ t) = at_ r) ∧ (∃ r, (0 ≤ r ∧ r < t + 1) ∧ b (by_ t) = at_ r) := by
  obtain ⟨-, -, j, g3, g4⟩ := h t h1 h2
  rcases g4 with ⟨r1, r2⟩ | ⟨r1, r2⟩
  · exact ⟨⟨j, by omega, r1.symm⟩, ⟨t, by omega, r2.symm⟩⟩
  · exact ⟨⟨t, by omega, r2.symm⟩, ⟨j, by omega, r1.symm⟩⟩
/-- all of a tree from 0 on are SECTIONS that there are -/
theorem TF_sec {σ : St} (hwf : WfM σ) (h1 : 1 ≤ σ 0 0) {at_ by_ : Int → Int} {c r : Int} (hr : 0 ≤ r ∧ r < σ 0 0) (h : TF (mA σ) (mV σ) (mB σ) (mW σ) (σ 4 0).toNat r c at_ by_) {t : Int} (t0 : 0 ≤ t) (t1 : t < c) : 0 ≤ at_ t ∧ at_ t < σ 0 0 := by
  obtain ⟨h1, h2, h3, h4, h5, h6⟩ := h
  by_cases q : t = 0
  · rw [q, h2]; exact hr
  · obtain ⟨g1, g2, j, g3, g4⟩ := h5 t (by omega) t1
    have ht := hwf.tie (k := by_ t) (by omega) (by omega)
    rcases g4 with ⟨r1, r2⟩ | ⟨r1, r2⟩
    · rw [r2]; exact ht.2.2.1
    · rw [r2]; exact ht.1
/-- the table's rows as a function -/
def tbl (u : St) (s m : Int) : Int := u 16 (16 * s + m)
/-- what the table holds: nothing wrong, and where a mark is not allowed, never -/
def TBo (nS nM : Int) (fo : Int → Int) (u : St) (z : Int) : Prop := (∀ s m, 0 ≤ s → s < nS → 0 ≤ m → m < nM → (ALf nM fo s m → 0 ≤ tbl u s m ∧ tbl u s m ≤ 518400 * z) ∧ (¬ ALf nM fo s m → tbl u s m = 1000000000))
/-- how far the table's numbers may have grown -/
def zF (x : Int) : Int := if x = 5 then 1 else if x = 4 then 3 else if x = 3 then 7 else if x = 2 then 15 else if x = 1 then 31 else if x = 0 then 63 else 0
theorem zF_step {i : Int} (h : 1 ≤ i ∧ i ≤ 6) : zF (i - 1) = 2 * zF i + 1 ∧ (0 ≤ zF i ∧ zF i ≤ 31) := by
  rcases (show i = 1 ∨ i = 2 ∨ i = 3 ∨ i = 4 ∨ i = 5 ∨ i = 6 by omega) with rfl | rfl | rfl | rfl | rfl | rfl <;> decide
theorem ALf_ex {nM : Int} {fo : Int → Int} (h : 1 ≤ nM) {s : Int} (hs : fo s = -9 ∨ (0 ≤ fo s ∧ fo s < nM)) : ∃ m, ALf nM fo s m := by
  rcases hs with q | q
  · exact ⟨0, by omega, Or.inl q⟩
  · exact ⟨fo s, q, Or.inr rfl⟩
theorem ALf_dec {nM : Int} {fo : Int → Int} {s m : Int} (hm : 0 ≤ m ∧ m < nM) : ALf nM fo s m ∨ ¬ ALf nM fo s m := by
  by_cases q : fo s = -9
  · exact Or.inl ⟨hm, Or.inl q⟩
  · by_cases q2 : m = fo s
    · exact Or.inl ⟨hm, Or.inr q2⟩
    · exact Or.inr (fun z => z.2.elim q q2)
/-- hangs: one SECTION more tells its parent -/
theorem lh_step {σ u u' : St} {i nM : Int} {fo : Int → Int} (hwf : WfM σ) (h1 : 1 ≤ σ 0 0) (hM : nM = σ 13 0) (hM1 : 1 ≤ nM) (hfo : ∀ s, 0 ≤ s → s < σ 0 0 → fo s = -9 ∨ (0 ≤ fo s ∧ fo s < nM)) (hT : TF (mA σ) (mV σ) (mB σ) (mW σ) (σ 4 0).toNat 0 (σ 10 0) (σ 11) (σ 12)) (hi : 1 ≤ i ∧ i < σ 10 0)
    (hD : DPI (σ 0 0) (ALf nM fo) (mA σ) (mB σ) (hmF (mV σ) (mW σ) (mE σ) (σ 14)) (σ 11) (σ 12) (σ 10 0).toNat (tbl u) (i.toNat + 1)) (hB : TBo (σ 0 0) nM fo u (zF i))
    {oth : Int} (ho : oth = if mB σ (σ 12 i) = σ 11 i then mA σ (σ 12 i) else mB σ (σ 12 i))
    (hu : ∀ y, u' 16 y = if 16 * oth ≤ y ∧ y < 16 * oth + nM then min (u 16 y + mnF (fun x => u 16 (16 * σ 11 i + x) + (if mB σ (σ 12 i) = σ 11 i then hmF (mV σ) (mW σ) (mE σ) (σ 14) (σ 12 i) (y - 16 * oth) x else hmF (mV σ) (mW σ) (mE σ) (σ 14) (σ 12 i) x (y - 16 * oth))) 1000000000 nM.toNat) 1000000000 else u 16 y) :
    DPI (σ 0 0) (ALf nM fo) (mA σ) (mB σ) (hmF (mV σ) (mW σ) (mE σ) (σ 14)) (σ 11) (σ 12) (σ 10 0).toNat (tbl u') i.toNat ∧ TBo (σ 0 0) nM fo u' (zF (i - 1)) := by
  have n13 := hwf.n.2.2.2
  have hsec := fun t t0 t1 => TF_sec hwf h1 (by omega) hT (t := t) t0 t1
  obtain ⟨t1, t2, t3, t4, t5, t6⟩ := hT
  obtain ⟨g1, g2, j, g3, g4⟩ := t5 i hi.1 hi.2
  have iN : ((i.toNat : Nat) : Int) = i := by omega
  have ci : σ 11 i ≠ σ 11 j := fun z => t4 j i (by omega) (by omega) (by omega) z.symm
  have eo : oth = σ 11 j := by
    rw [ho]
    rcases g4 with ⟨r1, r2⟩ | ⟨r1, r2⟩
    · rw [if_pos r2.symm, r1]
    · rw [if_neg (by rw [← r1]; exact fun z => ci z.symm), r1]
  have si := hsec i (by omega) hi.2
  have sj := hsec j (by omega) (by omega)
  have n0 := hwf.n.1
  have tie := hwf.tie (k := σ 12 i) (by omega) (by omega)
  have hmk := hwf.2.2.2.2.2.2.2.1
  have hmr : ∀ x m, 0 ≤ x ∧ x < nM → 0 ≤ m ∧ m < nM → 0 ≤ (if mB σ (σ 12 i) = σ 11 i then hmF (mV σ) (mW σ) (mE σ) (σ 14) (σ 12 i) m x else hmF (mV σ) (mW σ) (mE σ) (σ 14) (σ 12 i) x m) ∧ (if mB σ (σ 12 i) = σ 11 i then hmF (mV σ) (mW σ) (mE σ) (σ 14) (σ 12 i) m x else hmF (mV σ) (mW σ) (mE σ) (σ 14) (σ 12 i) x m) ≤ 518400 := by
    intro x m hx hm
    have r1 := (hmF_rng (v := mV σ) (w := mW σ) (er := mE σ) (mk := σ 14) (k := σ 12 i) (i := m) (j := x) tie.2.1 tie.2.2.2.1 tie.2.2.2.2.1 (hmk m hm.1 (by omega)) (hmk x hx.1 (by omega))).2
    have r2 := (hmF_rng (v := mV σ) (w := mW σ) (er := mE σ) (mk := σ 14) (k := σ 12 i) (i := x) (j := m) tie.2.1 tie.2.2.2.1 tie.2.2.2.2.1 (hmk x hx.1 (by omega)) (hmk m hm.1 (by omega))).2
    by_cases q : mB σ (σ 12 i) = σ 11 i
    · rw [if_pos q]; exact r1
    · rw [if_neg q]; exact r2
  -- what is told
  have hμ : ∃ μ : Int → Int, ∀ m, μ m = mnF (fun x => u 16 (16 * σ 11 i + x) + (if mB σ (σ 12 i) = σ 11 i then hmF (mV σ) (mW σ) (mE σ) (σ 14) (σ 12 i) m x else hmF (mV σ) (mW σ) (mE σ) (σ 14) (σ 12 i) x m)) 1000000000 nM.toNat := ⟨_, fun _ => rfl⟩
  obtain ⟨μ, eμ⟩ := hμ
  have zb := zF_step (i := i) (by omega)
  rw [zb.1]
  have zb := zb.2
  obtain ⟨x0, hx0⟩ := ALf_ex hM1 (hfo (σ 11 i) si.1 si.2)
  have μr : ∀ m, 0 ≤ m ∧ m < nM → (0 ≤ μ m ∧ μ m ≤ 518400 * zF i + 518400) ∧ (∀ x, ALf nM fo (σ 11 i) x → μ m ≤ tbl u (σ 11 i) x + (if mB σ (σ 12 i) = σ 11 i then hmF (mV σ) (mW σ) (mE σ) (σ 14) (σ 12 i) m x else hmF (mV σ) (mW σ) (mE σ) (σ 14) (σ 12 i) x m)) ∧ ∃ x, ALf nM fo (σ 11 i) x ∧ μ m = tbl u (σ 11 i) x + (if mB σ (σ 12 i) = σ 11 i then hmF (mV σ) (mW σ) (mE σ) (σ 14) (σ 12 i) m x else hmF (mV σ) (mW σ) (mE σ) (σ 14) (σ 12 i) x m) := by
    intro m hm
    obtain ⟨q1, q2, q3⟩ := mnF_is (fun x => u 16 (16 * σ 11 i + x) + (if mB σ (σ 12 i) = σ 11 i then hmF (mV σ) (mW σ) (mE σ) (σ 14) (σ 12 i) m x else hmF (mV σ) (mW σ) (mE σ) (σ 14) (σ 12 i) x m)) 1000000000 nM.toNat
    rw [← eμ m] at q1 q2 q3
    have hx01 := hx0.1
    have l0 := q2 x0 hx0.1.1 (by omega)
    have b0 := (hB (σ 11 i) x0 si.1 si.2 hx0.1.1 hx0.1.2).1 hx0
    have c0 := hmr x0 m hx0.1 hm
    have hle : μ m ≤ 518400 * zF i + 518400 := by
      have : tbl u (σ 11 i) x0 = u 16 (16 * σ 11 i + x0) := rfl
      omega
    have hex : ∃ x, ALf nM fo (σ 11 i) x ∧ μ m = tbl u (σ 11 i) x + (if mB σ (σ 12 i) = σ 11 i then hmF (mV σ) (mW σ) (mE σ) (σ 14) (σ 12 i) m x else hmF (mV σ) (mW σ) (mE σ) (σ 14) (σ 12 i) x m) := by
      rcases q3 with r | ⟨x, r1, r2⟩
      · omega
      · have hx : 0 ≤ x ∧ x < nM := by omega
        rcases ALf_dec (fo := fo) (s := σ 11 i) hx with al | al
        · exact ⟨x, al, r2⟩
        · have := (hB (σ 11 i) x si.1 si.2 hx.1 hx.2).2 al
          have c1 := hmr x m hx hm
          have e : tbl u (σ 11 i) x = u 16 (16 * σ 11 i + x) := rfl
          omega
    refine ⟨⟨?_, hle⟩, fun x al => ?_, hex⟩
    · obtain ⟨x, al, e⟩ := hex
      have := (hB (σ 11 i) x si.1 si.2 al.1.1 al.1.2).1 al
      have c1 := hmr x m al.1 hm
      omega
    · exact q2 x al.1.1 (by have := al.1; omega)
  have row : ∀ s m, 0 ≤ s → 0 ≤ m → m < nM → s ≠ oth → tbl u' s m = tbl u s m := by
    intro s m s0 m0 m1 hs
    show u' 16 (16 * s + m) = u 16 (16 * s + m)
    rw [hu, if_neg (by omega)]
  have rowo : ∀ m, 0 ≤ m → m < nM → tbl u' oth m = min (tbl u oth m + μ m) 1000000000 := by
    intro m m0 m1
    show u' 16 (16 * oth + m) = min (u 16 (16 * oth + m) + _) 1000000000
    rw [hu, if_pos (by omega), show 16 * oth + m - 16 * oth = m by omega, ← eμ m]
  have rowa : ∀ m, ALf nM fo oth m → tbl u' oth m = tbl u oth m + μ m := by
    intro m al
    have b0 := (hB oth m (by rw [eo]; exact sj.1) (by rw [eo]; exact sj.2) al.1.1 al.1.2).1 al
    have := (μr m al.1).1
    rw [rowo m al.1.1 al.1.2]
    omega
  refine ⟨?_, ?_⟩
  · refine DP_step (i := i.toNat) (j := j) (by omega) (by omega) (fun t a1 a2 => hsec t a1 (by omega)) (fun t r a1 a2 a3 => t4 t r a1 a2 (by omega)) (fun t a1 a2 => TR_low t5 a1 (by omega)) (by omega) (by rw [iN]; exact g4) hD μ (fun t a1 a2 a3 m al => ?_) (fun m al => ?_) (fun m al => ?_)
    · have st := hsec t a1 (by omega)
      refine row _ m st.1 al.1.1 al.1.2 ?_
      rw [eo]
      by_cases q : t < j
      · exact t4 t j a1 q (by omega)
      · exact fun z => t4 j t (by omega) (by omega) (by omega) z.symm
    · rw [← eo] at al ⊢
      exact rowa m al
    · rw [iN]
      have := (μr m al.1).2
      by_cases q : mB σ (σ 12 i) = σ 11 i
      · simp only [if_pos q] at this
        simp only [if_pos q.symm]
        exact this
      · have q' : ¬ σ 11 i = mB σ (σ 12 i) := fun z => q z.symm
        simp only [if_neg q] at this
        simp only [if_neg q']
        exact this
  · intro s m s0 s1 m0 m1
    have old := hB s m s0 s1 m0 m1
    by_cases q : s = oth
    · subst q
      refine ⟨fun al => ?_, fun al => ?_⟩
      · have o1 := old.1 al
        have := (μr m ⟨m0, m1⟩).1
        rw [rowa m al]
        omega
      · have := old.2 al
        have := (μr m ⟨m0, m1⟩).1
        rw [rowo m m0 m1]
        omega
    · rw [row s m s0 m0 m1 q]
      refine ⟨fun al => ?_, old.2⟩
      have := old.1 al
      omega
