theorem cf_step {l f n c : Int} (hl : 1 ≤ l) (hc : 0 ≤ c) (hf : 2 ≤ f) (h : l * 2 ^ c.toNat ≤ n) : l / f * 2 ^ (c + 1).toNat ≤ n := by
  have e : (c + 1).toNat = c.toNat + 1 := by omega
  have q : l / f * 2 ≤ l := by
    have h1 : l / f * f ≤ l := Int.ediv_mul_le l (by omega)
    have h2 : l / f * 2 ≤ l / f * f := Int.mul_le_mul_of_nonneg_left hf (Int.ediv_nonneg (by omega) (by omega))
    omega
  have p := (pow_le2 (Nat.le_refl c.toNat)).1
  rw [e, Int.pow_succ]
  calc l / f * (2 ^ c.toNat * 2) = l / f * 2 * 2 ^ c.toNat := by ac_rfl
    _ ≤ l * 2 ^ c.toNat := Int.mul_le_mul_of_nonneg_right q (by omega)
    _ ≤ n := h
theorem cf_no {l n c : Int} (hl : 1 ≤ l) (hc : 0 ≤ c ∧ c ≤ 9) (hn : n ≤ 400) (h : l * 2 ^ c.toNat ≤ n) (h9 : 9 ≤ c) : False := by
  have e : c.toNat = 9 := by omega
  rw [e] at h
  have : (2 : Int) ^ 9 = 512 := by decide
  rw [this] at h
  omega
theorem pU_le8 {x y : Int} (hx : 0 ≤ x ∧ x ≤ 8) (hy : 0 ≤ y ∧ y ≤ 5) : pU x y ≤ 100000 := by
  have h1 := pow_le2 (show x.toNat ≤ 8 by omega)
  have h2 := pow_le3 (show y.toNat ≤ 5 by omega)
  have e1 : (2 : Int) ^ 8 = 256 := by decide
  have e2 : (3 : Int) ^ 5 = 243 := by decide
  have := Int.mul_le_mul h1.2 h2.2 (by omega) (by omega)
  unfold pU
  rw [e1, e2] at this
  omega
theorem rm_step {σ u1 : St} (F : Nat) {k x : Int} (h1 : k ≤ x) (h : ∀ y, u1 F y = if k ≤ y ∧ y < x then σ F (y + 1) else σ F y) (y : Int) : up u1 F x (u1 F (x + 1)) F y = if k ≤ y ∧ y < x + 1 then σ F (y + 1) else σ F y := by
  rw [up_i, h (x + 1), if_neg (show ¬ (k ≤ x + 1 ∧ x + 1 < x) by omega), h y]
  by_cases q : y = x
  · rw [if_pos q, if_pos (by omega), q]
  · rw [if_neg q]
    by_cases q2 : k ≤ y ∧ y < x
    · rw [if_pos q2, if_pos (by omega)]
    · rw [if_neg q2, if_neg (by omega)]
theorem lo_stepG {σ u1 : St} (F : Nat) {k place : Int} (h1 : place ≤ k) (h4 : ∀ i, u1 F i = if place ≤ i ∧ i < k then σ F (i + 1) else σ F i) (i : Int) : up u1 F k (u1 F (k + 1)) F i = if place ≤ i ∧ i < k + 1 then σ F (i + 1) else σ F i := rm_step F h1 h4 i
theorem tm_stepG {u1 σ : St} (F : Nat) {k n : Int} (h1 : 0 ≤ k ∧ k ≤ n) (h3 : ∀ i, u1 F i = if k < i ∧ i ≤ n then σ F (i - 1) else σ F i) (hk : 0 < k) (i : Int) : up u1 F k (u1 F (k - 1)) F i = if k + -1 < i ∧ i ≤ n then σ F (i - 1) else σ F i := by
  rw [up_i, h3 (k - 1), if_neg (show ¬ (k < k - 1 ∧ k - 1 ≤ n) by omega), h3 i]
  by_cases q : i = k
  · rw [if_pos q, if_pos (by omega), q]
  · rw [if_neg q]
    by_cases q2 : k < i ∧ i ≤ n
    · rw [if_pos q2, if_pos (by omega)]
    · rw [if_neg q2, if_neg (by omega)]
theorem tm_endG {u1 σ : St} {k n m x : Int} (h1 : 0 ≤ k ∧ k ≤ n) (h3 : ∀ i, u1 15 i = if k < i ∧ i ≤ n then σ 15 (i - 1) else σ 15 i) (h4 : ∀ i, k ≤ i → i < n → m < σ 15 i) (hk : k = 0 ∨ σ 15 (k - 1) ≤ m) : up (up u1 15 k m) 16 0 x 15 = insM (σ 15) m n := by
  have e := insP_down h1.1 h1.2 h4 hk
  funext i
  show up u1 15 k m 15 i = _
  rw [up_i, h3 i]
  unfold insM
  rw [e]
section JD
variable {a v b w : Int → Int} {σ : St} {n : Nat} {k : Int}
theorem jd_0 (hk : (n : Int) = k) (ja : JQ a v b w σ n (a k)) (jb : JQ a v b w σ n (b k)) (h : ¬ σ 10 (a k) = σ 10 (b k)) : 0 = jK a v b w n := by
  subst hk
  rw [ja.1, jb.1] at h
  unfold jK
  rw [if_neg h]
theorem jd_1 (hk : (n : Int) = k) (ja : JQ a v b w σ n (a k)) (jb : JQ a v b w σ n (b k)) (h : σ 10 (a k) = σ 10 (b k)) (h1 : σ 11 (b k) - σ 11 (a k) = tw (w k) - tw (v k)) (h2 : σ 12 (b k) - σ 12 (a k) = th (w k) - th (v k)) : 1 = jK a v b w n := by
  subst hk
  rw [ja.1, jb.1] at h
  rw [ja.2.1, jb.2.1] at h1
  rw [ja.2.2.1, jb.2.2.1] at h2
  unfold jK
  rw [if_pos h, if_pos ⟨h1, h2⟩]
theorem jd_2 (hk : (n : Int) = k) (ja : JQ a v b w σ n (a k)) (jb : JQ a v b w σ n (b k)) (h : σ 10 (a k) = σ 10 (b k)) (h1 : ¬ (σ 11 (b k) - σ 11 (a k) = tw (w k) - tw (v k) ∧ σ 12 (b k) - σ 12 (a k) = th (w k) - th (v k))) : 2 = jK a v b w n := by
  subst hk
  rw [ja.1, jb.1] at h
  rw [ja.2.1, jb.2.1, ja.2.2.1, jb.2.2.1] at h1
  unfold jK
  rw [if_pos h, if_neg h1]
theorem jd_s (hk : (n : Int) = k) (ja : JQ a v b w σ n (a k)) (jb : JQ a v b w σ n (b k)) (h : σ 10 (a k) = σ 10 (b k)) (hJ : ∀ s, 0 ≤ s → s < 7 → JQ a v b w σ n s) : ∀ s, 0 ≤ s → s < 7 → JQ a v b w σ (n + 1) s := by
  subst hk
  rw [ja.1, jb.1] at h
  intro s s0 s1
  obtain ⟨e0, e1, e2, e3⟩ := hJ s s0 s1
  exact ⟨by rw [jS_same h]; exact e0, by rw [jS_same h]; exact e1, by rw [jS_same h]; exact e2, by rw [jS_same h]; exact e3⟩
end JD
theorem fw_a {u1 : St} {x : Int} (h3 : ∀ s, 0 ≤ s → s < x → u1 10 s = s ∧ u1 11 s = 0 ∧ u1 12 s = 0 ∧ u1 13 s = 0) : ∀ s, 0 ≤ s → s < x + 1 → (up (up (up (up u1 10 x x) 11 x 0) 12 x 0) 13 x 0) 10 s = s ∧ (up (up (up (up u1 10 x x) 11 x 0) 12 x 0) 13 x 0) 11 s = 0 ∧ (up (up (up (up u1 10 x x) 11 x 0) 12 x 0) 13 x 0) 12 s = 0 ∧ (up (up (up (up u1 10 x x) 11 x 0) 12 x 0) 13 x 0) 13 s = 0 := by
  intro s s0 s1
  by_cases q : s = x
  · subst q
    exact ⟨up_s u1 10 s s, up_s (up u1 10 s s) 11 s 0, up_s (up (up u1 10 s s) 11 s 0) 12 s 0, up_s _ 13 s 0⟩
  · obtain ⟨e0, e1, e2, e3⟩ := h3 s s0 (by omega)
    exact ⟨(up_n u1 10 x q).trans e0, (up_n (up u1 10 x x) 11 0 q).trans e1, (up_n (up (up u1 10 x x) 11 x 0) 12 0 q).trans e2, (up_n _ 13 0 q).trans e3⟩
theorem fw_b {σ u2 u3 : St} {k z : Int} (h2 : ∀ F, (F < 10 ∨ 14 < F) → u2 F = σ F) (hj : ∀ s, 0 ≤ s → s < 7 → JQ (u2 5) (u2 6) (u2 7) (u2 8) u3 (k.toNat + 1) s) (hk : 0 ≤ k) : ∀ s, 0 ≤ s → s < 7 → JQ (σ 5) (σ 6) (σ 7) (σ 8) (up u3 14 k z) (k + 1).toNat s := by
  intro s s0 s1
  rw [show (k + 1).toNat = k.toNat + 1 by omega]
  have := hj s s0 s1
  rw [h2 5 (by omega), h2 6 (by omega), h2 7 (by omega), h2 8 (by omega)] at this
  exact this
theorem fw_c {σ u2 u3 : St} {k z : Int} (h2 : ∀ F, (F < 10 ∨ 14 < F) → u2 F = σ F) (h4 : ∀ j, 0 ≤ j → j < k → u2 14 j = jK (σ 5) (σ 6) (σ 7) (σ 8) j.toNat) (hn : ∀ F, (F < 10 ∨ 13 < F) → u3 F = u2 F) (er : z = jK (u2 5) (u2 6) (u2 7) (u2 8) k.toNat) : ∀ j, 0 ≤ j → j < k + 1 → up u3 14 k z 14 j = jK (σ 5) (σ 6) (σ 7) (σ 8) j.toNat := by
  intro j j0 j1
  rw [up_i]
  by_cases q : j = k
  · rw [if_pos q, er, h2 5 (by omega), h2 6 (by omega), h2 7 (by omega), h2 8 (by omega), q]
  · rw [if_neg q, hn 14 (by omega)]
    exact h4 j j0 (by omega)
theorem fw_end {σ u2 : St} {k : Int} (h2 : ∀ F, (F < 10 ∨ 14 < F) → u2 F = σ F) (hk : k = σ 4 0) (h3 : ∀ s, 0 ≤ s → s < 7 → JQ (σ 5) (σ 6) (σ 7) (σ 8) u2 k.toNat s) (h4 : ∀ j, 0 ≤ j → j < k → u2 14 j = jK (σ 5) (σ 6) (σ 7) (σ 8) j.toNat) : JI u2 := by
  unfold JI
  rw [h2 5 (by omega), h2 6 (by omega), h2 7 (by omega), h2 8 (by omega), h2 4 (by omega)]
  subst hk
  exact ⟨fun _ => h3, h4⟩
/-- the nearest so far, and how far -/
def NR (mk : Int → Int) (U L : Int) (n : Nat) (best least : Int) : Prop := (nrI (fun k => ((U - mk k * L).natAbs : Int)) n = -9 ∧ best = -9) ∨ (¬ nrI (fun k => ((U - mk k * L).natAbs : Int)) n = -9 ∧ ¬ best = -9 ∧ best = mk (nrI (fun k => ((U - mk k * L).natAbs : Int)) n) ∧ least = ((U - mk (nrI (fun k => ((U - mk k * L).natAbs : Int)) n) * L).natAbs : Int))
section NRS
variable {mk : Int → Int} {U L k best least : Int}
theorem NR_a (h0 : 0 ≤ k) (hm : 20 ≤ mk k) (h : NR mk U L k.toNat best least) (h9 : best = -9) : NR mk U L (k + 1).toNat (mk k) ((U - mk k * L).natAbs : Int) := by
  have e : nrI (fun k => ((U - mk k * L).natAbs : Int)) k.toNat = -9 := by
    rcases h with q | q
    · exact q.1
    · exact absurd h9 q.2.1
  have e2 := nrI_succ (fun k => ((U - mk k * L).natAbs : Int)) h0
  rw [if_pos e] at e2
  right
  rw [e2]
  exact ⟨by omega, by omega, rfl, rfl⟩
theorem NR_b (h0 : 0 ≤ k) (h : NR mk U L k.toNat best least) (h9 : ¬ best = -9) (hl : ((U - mk k * L).natAbs : Int) < least) (hm : 20 ≤ mk k := by omega) : NR mk U L (k + 1).toNat (mk k) ((U - mk k * L).natAbs : Int) := by
  rcases h with q | ⟨q1, q2, q3, q4⟩
  · exact absurd q.2 h9
  have e2 := nrI_succ (fun k => ((U - mk k * L).natAbs : Int)) h0
  rw [if_neg q1, if_pos (by omega)] at e2
  right
  rw [e2]
  exact ⟨by omega, by omega, rfl, rfl⟩
theorem NR_c (h0 : 0 ≤ k) (h : NR mk U L k.toNat best least) (h9 : ¬ best = -9) (hl : least ≤ ((U - mk k * L).natAbs : Int)) : NR mk U L (k + 1).toNat best least := by
  rcases h with q | ⟨q1, q2, q3, q4⟩
  · exact absurd q.2 h9
  have e2 := nrI_succ (fun k => ((U - mk k * L).natAbs : Int)) h0
  rw [if_neg q1, if_neg (by omega)] at e2
  right
  rw [e2]
  exact ⟨q1, q2, q3, q4⟩
theorem NR_end {n : Int} (hm : ∀ {i : Int}, 0 ≤ i → i < n → 20 ≤ mk i ∧ mk i ≤ 400) (hk : k = n) (hn : 0 ≤ n) (h : NR mk U L k.toNat best least) : best = (if nrI (fun k => ((U - mk k * L).natAbs : Int)) n.toNat = -9 then -9 else mk (nrI (fun k => ((U - mk k * L).natAbs : Int)) n.toNat)) := by
  subst hk
  rcases h with q | ⟨q1, q2, q3, q4⟩
  · rw [if_pos q.1]; exact q.2
  · rw [if_neg q1]; exact q3
end NRS

set_option maxHeartbeats 4000000 in
set_option maxRecDepth 100000 in
theorem kX5_isValue (l : Launch) (D : va_G) (E : Nat → Nat) (v : Int) (hr : (-2147483648 ≤ v ∧ v < 2147483648)) : CtI l D E yX5_isValue wsX5_isValue ({ frames := 0, cells := 0, slots := 0, locals := 0 } : Room) [.int (jI v)] ([]) (fun _ : Unit => ([] : va_W)) (fun (rv : Int) (_ : Unit) => ((rv = 1 ∧ (0 ≤ v ∧ v ≤ 19)) ∨ (rv = 0 ∧ ¬ (0 ≤ v ∧ v ≤ 19)))) := by
  refine mk_I (cc := cX5_isValue) (maxL := 1) (ret := some .boolean) (by decide) rfl (Nat.le_of_ble_eq_true rfl) ?_
  intro p e s m args below meth c A X hret
  refine z_lv (lv' := [(0, .int (jI v))]) [0] rfl ?_
  refine z_iload_n (pc' := 1) X dX5_isValue_0 rfl 0 rfl rfl ?_
  refine z_if_lt (tgt := 14) (pc' := 4) X dX5_isValue_1 (by decide) rfl (by omega) (fun h1 => ?_) (fun h1 => ?_)
  · refine z_iconst (pc' := 15) X dX5_isValue_14 rfl ?_
    exact z_zret (post := (fun (rv : Int) (_ : Unit) => ((rv = 1 ∧ (0 ≤ v ∧ v ≤ 19)) ∨ (rv = 0 ∧ ¬ (0 ≤ v ∧ v ≤ 19))))) X dX5_isValue_15 hret () (by first | decide | omega) (Or.inr ⟨rfl, by omega⟩)
  · refine z_iload_n (pc' := 5) X dX5_isValue_4 rfl 0 rfl rfl ?_
    refine z_bipush (pc' := 7) X dX5_isValue_5 rfl rfl ?_
    refine z_icmp_ge (tgt := 14) (pc' := 10) X dX5_isValue_7 (by decide) rfl (by omega) (fun h7 => ?_) (fun h7 => ?_)
    · refine z_iconst (pc' := 15) X dX5_isValue_14 rfl ?_
      exact z_zret (post := (fun (rv : Int) (_ : Unit) => ((rv = 1 ∧ (0 ≤ v ∧ v ≤ 19)) ∨ (rv = 0 ∧ ¬ (0 ≤ v ∧ v ≤ 19))))) X dX5_isValue_15 hret () (by first | decide | omega) (Or.inr ⟨rfl, by omega⟩)
    · refine z_iconst (pc' := 11) X dX5_isValue_10 rfl ?_
      refine z_goto (tgt := 15) X dX5_isValue_11 (by decide) ?_
      exact z_zret (post := (fun (rv : Int) (_ : Unit) => ((rv = 1 ∧ (0 ≤ v ∧ v ≤ 19)) ∨ (rv = 0 ∧ ¬ (0 ≤ v ∧ v ≤ 19))))) X dX5_isValue_15 hret () (by first | decide | omega) (Or.inl ⟨rfl, by omega⟩)
set_option maxHeartbeats 4000000 in
set_option maxRecDepth 100000 in
theorem kX5_isBeats (l : Launch) (D : va_G) (E : Nat → Nat) (v : Int) (hr : (-2147483648 ≤ v ∧ v < 2147483648)) : CtI l D E yX5_isBeats wsX5_isBeats ({ frames := 0, cells := 0, slots := 0, locals := 0 } : Room) [.int (jI v)] ([]) (fun _ : Unit => ([] : va_W)) (fun (rv : Int) (_ : Unit) => ((rv = 1 ∧ (1 ≤ v ∧ v ≤ 99)) ∨ (rv = 0 ∧ ¬ (1 ≤ v ∧ v ≤ 99)))) := by
  refine mk_I (cc := cX5_isBeats) (maxL := 1) (ret := some .boolean) (by decide) rfl (Nat.le_of_ble_eq_true rfl) ?_
  intro p e s m args below meth c A X hret
  refine z_lv (lv' := [(0, .int (jI v))]) [0] rfl ?_
  refine z_iload_n (pc' := 1) X dX5_isBeats_0 rfl 0 rfl rfl ?_
  refine z_iconst (pc' := 2) X dX5_isBeats_1 rfl ?_
  refine z_icmp_lt (tgt := 15) (pc' := 5) X dX5_isBeats_2 (by decide) rfl (by omega) (fun h2 => ?_) (fun h2 => ?_)
  · refine z_iconst (pc' := 16) X dX5_isBeats_15 rfl ?_
    exact z_zret (post := (fun (rv : Int) (_ : Unit) => ((rv = 1 ∧ (1 ≤ v ∧ v ≤ 99)) ∨ (rv = 0 ∧ ¬ (1 ≤ v ∧ v ≤ 99))))) X dX5_isBeats_16 hret () (by first | decide | omega) (Or.inr ⟨rfl, by omega⟩)
  · refine z_iload_n (pc' := 6) X dX5_isBeats_5 rfl 0 rfl rfl ?_
    refine z_bipush (pc' := 8) X dX5_isBeats_6 rfl rfl ?_
    refine z_icmp_gt (tgt := 15) (pc' := 11) X dX5_isBeats_8 (by decide) rfl (by omega) (fun h8 => ?_) (fun h8 => ?_)
    · refine z_iconst (pc' := 16) X dX5_isBeats_15 rfl ?_
      exact z_zret (post := (fun (rv : Int) (_ : Unit) => ((rv = 1 ∧ (1 ≤ v ∧ v ≤ 99)) ∨ (rv = 0 ∧ ¬ (1 ≤ v ∧ v ≤ 99))))) X dX5_isBeats_16 hret () (by first | decide | omega) (Or.inr ⟨rfl, by omega⟩)
    · refine z_iconst (pc' := 12) X dX5_isBeats_11 rfl ?_
      refine z_goto (tgt := 16) X dX5_isBeats_12 (by decide) ?_
      exact z_zret (post := (fun (rv : Int) (_ : Unit) => ((rv = 1 ∧ (1 ≤ v ∧ v ≤ 99)) ∨ (rv = 0 ∧ ¬ (1 ≤ v ∧ v ≤ 99))))) X dX5_isBeats_16 hret () (by first | decide | omega) (Or.inl ⟨rfl, by omega⟩)
set_option maxHeartbeats 4000000 in
set_option maxRecDepth 100000 in
theorem kX5_isEar (l : Launch) (D : va_G) (E : Nat → Nat) (v : Int) (hr : (-2147483648 ≤ v ∧ v < 2147483648)) : CtI l D E yX5_isEar wsX5_isEar ({ frames := 0, cells := 0, slots := 0, locals := 0 } : Room) [.int (jI v)] ([]) (fun _ : Unit => ([] : va_W)) (fun (rv : Int) (_ : Unit) => ((rv = 1 ∧ (0 ≤ v ∧ v ≤ 9)) ∨ (rv = 0 ∧ ¬ (0 ≤ v ∧ v ≤ 9)))) := by
  refine mk_I (cc := cX5_isEar) (maxL := 1) (ret := some .boolean) (by decide) rfl (Nat.le_of_ble_eq_true rfl) ?_
  intro p e s m args below meth c A X hret
  refine z_lv (lv' := [(0, .int (jI v))]) [0] rfl ?_
  refine z_iload_n (pc' := 1) X dX5_isEar_0 rfl 0 rfl rfl ?_
  refine z_if_lt (tgt := 14) (pc' := 4) X dX5_isEar_1 (by decide) rfl (by omega) (fun h1 => ?_) (fun h1 => ?_)
  · refine z_iconst (pc' := 15) X dX5_isEar_14 rfl ?_
    exact z_zret (post := (fun (rv : Int) (_ : Unit) => ((rv = 1 ∧ (0 ≤ v ∧ v ≤ 9)) ∨ (rv = 0 ∧ ¬ (0 ≤ v ∧ v ≤ 9))))) X dX5_isEar_15 hret () (by first | decide | omega) (Or.inr ⟨rfl, by omega⟩)
  · refine z_iload_n (pc' := 5) X dX5_isEar_4 rfl 0 rfl rfl ?_
    refine z_bipush (pc' := 7) X dX5_isEar_5 rfl rfl ?_
    refine z_icmp_gt (tgt := 14) (pc' := 10) X dX5_isEar_7 (by decide) rfl (by omega) (fun h7 => ?_) (fun h7 => ?_)
    · refine z_iconst (pc' := 15) X dX5_isEar_14 rfl ?_
      exact z_zret (post := (fun (rv : Int) (_ : Unit) => ((rv = 1 ∧ (0 ≤ v ∧ v ≤ 9)) ∨ (rv = 0 ∧ ¬ (0 ≤ v ∧ v ≤ 9))))) X dX5_isEar_15 hret () (by first | decide | omega) (Or.inr ⟨rfl, by omega⟩)
    · refine z_iconst (pc' := 11) X dX5_isEar_10 rfl ?_
      refine z_goto (tgt := 15) X dX5_isEar_11 (by decide) ?_
      exact z_zret (post := (fun (rv : Int) (_ : Unit) => ((rv = 1 ∧ (0 ≤ v ∧ v ≤ 9)) ∨ (rv = 0 ∧ ¬ (0 ≤ v ∧ v ≤ 9))))) X dX5_isEar_15 hret () (by first | decide | omega) (Or.inl ⟨rfl, by omega⟩)
set_option maxHeartbeats 4000000 in
set_option maxRecDepth 100000 in
theorem kX5_isWhich (l : Launch) (D : va_G) (E : Nat → Nat) (v : Int) (hr : (-2147483648 ≤ v ∧ v < 2147483648)) : CtI l D E yX5_isWhich wsX5_isWhich ({ frames := 0, cells := 0, slots := 0, locals := 0 } : Room) [.int (jI v)] ([]) (fun _ : Unit => ([] : va_W)) (fun (rv : Int) (_ : Unit) => ((rv = 1 ∧ (0 ≤ v ∧ v ≤ 1)) ∨ (rv = 0 ∧ ¬ (0 ≤ v ∧ v ≤ 1)))) := by
  refine mk_I (cc := cX5_isWhich) (maxL := 1) (ret := some .boolean) (by decide) rfl (Nat.le_of_ble_eq_true rfl) ?_
  intro p e s m args below meth c A X hret
  refine z_lv (lv' := [(0, .int (jI v))]) [0] rfl ?_
  refine z_iload_n (pc' := 1) X dX5_isWhich_0 rfl 0 rfl rfl ?_
  refine z_if_eq (tgt := 9) (pc' := 4) X dX5_isWhich_1 (by decide) rfl (by omega) (fun h1 => ?_) (fun h1 => ?_)
  · refine z_iconst (pc' := 10) X dX5_isWhich_9 rfl ?_
    refine z_goto (tgt := 14) X dX5_isWhich_10 (by decide) ?_
    exact z_zret (post := (fun (rv : Int) (_ : Unit) => ((rv = 1 ∧ (0 ≤ v ∧ v ≤ 1)) ∨ (rv = 0 ∧ ¬ (0 ≤ v ∧ v ≤ 1))))) X dX5_isWhich_14 hret () (by first | decide | omega) (Or.inl ⟨rfl, by omega⟩)
  · refine z_iload_n (pc' := 5) X dX5_isWhich_4 rfl 0 rfl rfl ?_
    refine z_iconst (pc' := 6) X dX5_isWhich_5 rfl ?_
    refine z_icmp_ne (tgt := 13) (pc' := 9) X dX5_isWhich_6 (by decide) rfl (by omega) (fun h6 => ?_) (fun h6 => ?_)
    · refine z_iconst (pc' := 14) X dX5_isWhich_13 rfl ?_
      exact z_zret (post := (fun (rv : Int) (_ : Unit) => ((rv = 1 ∧ (0 ≤ v ∧ v ≤ 1)) ∨ (rv = 0 ∧ ¬ (0 ≤ v ∧ v ≤ 1))))) X dX5_isWhich_14 hret () (by first | decide | omega) (Or.inr ⟨rfl, by omega⟩)
    · refine z_iconst (pc' := 10) X dX5_isWhich_9 rfl ?_
      refine z_goto (tgt := 14) X dX5_isWhich_10 (by decide) ?_
      exact z_zret (post := (fun (rv : Int) (_ : Unit) => ((rv = 1 ∧ (0 ≤ v ∧ v ≤ 1)) ∨ (rv = 0 ∧ ¬ (0 ≤ v ∧ v ≤ 1))))) X dX5_isWhich_14 hret () (by first | decide | omega) (Or.inl ⟨rfl, by omega⟩)
set_option maxHeartbeats 4000000 in
set_option maxRecDepth 100000 in
theorem kX5_isWholeTempo (l : Launch) (D : va_G) (E : Nat → Nat) (v : Int) (hr : (-2147483648 ≤ v ∧ v < 2147483648)) : CtI l D E yX5_isWholeTempo wsX5_isWholeTempo ({ frames := 0, cells := 0, slots := 0, locals := 0 } : Room) [.int (jI v)] ([]) (fun _ : Unit => ([] : va_W)) (fun (rv : Int) (_ : Unit) => ((rv = 1 ∧ (20 ≤ v ∧ v ≤ 400)) ∨ (rv = 0 ∧ ¬ (20 ≤ v ∧ v ≤ 400)))) := by
  refine mk_I (cc := cX5_isWholeTempo) (maxL := 1) (ret := some .boolean) (by decide) rfl (Nat.le_of_ble_eq_true rfl) ?_
  intro p e s m args below meth c A X hret
  refine z_lv (lv' := [(0, .int (jI v))]) [0] rfl ?_
  refine z_iload_n (pc' := 1) X dX5_isWholeTempo_0 rfl 0 rfl rfl ?_
  refine z_bipush (pc' := 3) X dX5_isWholeTempo_1 rfl rfl ?_
  refine z_icmp_lt (tgt := 17) (pc' := 6) X dX5_isWholeTempo_3 (by decide) rfl (by omega) (fun h3 => ?_) (fun h3 => ?_)
  · refine z_iconst (pc' := 18) X dX5_isWholeTempo_17 rfl ?_
    exact z_zret (post := (fun (rv : Int) (_ : Unit) => ((rv = 1 ∧ (20 ≤ v ∧ v ≤ 400)) ∨ (rv = 0 ∧ ¬ (20 ≤ v ∧ v ≤ 400))))) X dX5_isWholeTempo_18 hret () (by first | decide | omega) (Or.inr ⟨rfl, by omega⟩)
  · refine z_iload_n (pc' := 7) X dX5_isWholeTempo_6 rfl 0 rfl rfl ?_
    refine z_sipush (pc' := 10) X dX5_isWholeTempo_7 rfl rfl ?_
    refine z_icmp_gt (tgt := 17) (pc' := 13) X dX5_isWholeTempo_10 (by decide) rfl (by omega) (fun h10 => ?_) (fun h10 => ?_)
    · refine z_iconst (pc' := 18) X dX5_isWholeTempo_17 rfl ?_
      exact z_zret (post := (fun (rv : Int) (_ : Unit) => ((rv = 1 ∧ (20 ≤ v ∧ v ≤ 400)) ∨ (rv = 0 ∧ ¬ (20 ≤ v ∧ v ≤ 400))))) X dX5_isWholeTempo_18 hret () (by first | decide | omega) (Or.inr ⟨rfl, by omega⟩)
    · refine z_iconst (pc' := 14) X dX5_isWholeTempo_13 rfl ?_
      refine z_goto (tgt := 18) X dX5_isWholeTempo_14 (by decide) ?_
      exact z_zret (post := (fun (rv : Int) (_ : Unit) => ((rv = 1 ∧ (20 ≤ v ∧ v ≤ 400)) ∨ (rv = 0 ∧ ¬ (20 ≤ v ∧ v ≤ 400))))) X dX5_isWholeTempo_18 hret () (by first | decide | omega) (Or.inl ⟨rfl, by omega⟩)
set_option maxHeartbeats 4000000 in
set_option maxRecDepth 100000 in
theorem kX5_isMoment (l : Launch) (D : va_G) (E : Nat → Nat) (v : Int) (hr : (-2147483648 ≤ v ∧ v < 2147483648)) : CtI l D E yX5_isMoment wsX5_isMoment ({ frames := 0, cells := 0, slots := 0, locals := 0 } : Room) [.int (jI v)] ([]) (fun _ : Unit => ([] : va_W)) (fun (rv : Int) (_ : Unit) => ((rv = 1 ∧ (0 ≤ v ∧ v ≤ 100000000)) ∨ (rv = 0 ∧ ¬ (0 ≤ v ∧ v ≤ 100000000)))) := by
  refine mk_I (cc := cX5_isMoment) (maxL := 1) (ret := some .boolean) (by decide) rfl (Nat.le_of_ble_eq_true rfl) ?_
  intro p e s m args below meth c A X hret
  refine z_lv (lv' := [(0, .int (jI v))]) [0] rfl ?_
  refine z_iload_n (pc' := 1) X dX5_isMoment_0 rfl 0 rfl rfl ?_
  refine z_if_lt (tgt := 14) (pc' := 4) X dX5_isMoment_1 (by decide) rfl (by omega) (fun h1 => ?_) (fun h1 => ?_)
  · refine z_iconst (pc' := 15) X dX5_isMoment_14 rfl ?_
    exact z_zret (post := (fun (rv : Int) (_ : Unit) => ((rv = 1 ∧ (0 ≤ v ∧ v ≤ 100000000)) ∨ (rv = 0 ∧ ¬ (0 ≤ v ∧ v ≤ 100000000))))) X dX5_isMoment_15 hret () (by first | decide | omega) (Or.inr ⟨rfl, by omega⟩)
  · refine z_iload_n (pc' := 5) X dX5_isMoment_4 rfl 0 rfl rfl ?_
    refine z_ldc (pc' := 7) (x := 100000000) X dX5_isMoment_5 rfl (by decide +kernel) rfl ?_
    refine z_icmp_gt (tgt := 14) (pc' := 10) X dX5_isMoment_7 (by decide) rfl (by omega) (fun h7 => ?_) (fun h7 => ?_)
    · refine z_iconst (pc' := 15) X dX5_isMoment_14 rfl ?_
      exact z_zret (post := (fun (rv : Int) (_ : Unit) => ((rv = 1 ∧ (0 ≤ v ∧ v ≤ 100000000)) ∨ (rv = 0 ∧ ¬ (0 ≤ v ∧ v ≤ 100000000))))) X dX5_isMoment_15 hret () (by first | decide | omega) (Or.inr ⟨rfl, by omega⟩)
    · refine z_iconst (pc' := 11) X dX5_isMoment_10 rfl ?_
      refine z_goto (tgt := 15) X dX5_isMoment_11 (by decide) ?_
      exact z_zret (post := (fun (rv : Int) (_ : Unit) => ((rv = 1 ∧ (0 ≤ v ∧ v ≤ 100000000)) ∨ (rv = 0 ∧ ¬ (0 ≤ v ∧ v ≤ 100000000))))) X dX5_isMoment_15 hret () (by first | decide | omega) (Or.inl ⟨rfl, by omega⟩)
set_option maxHeartbeats 4000000 in
set_option maxRecDepth 100000 in
theorem kX5_power (l : Launch) (D : va_G) (E : Nat → Nat) (by_ n : Int) (hr : (-2147483648 ≤ n ∧ n < 2147483648)) : CtL l D E yX5_power wsX5_power ({ frames := 0, cells := 0, slots := 0, locals := 0 } : Room) [.long (jL by_), .int (jI n)] ([]) (fun _ : Unit => ([] : va_W)) (fun (rv : Int) (_ : Unit) => rv = by_ ^ n.toNat) := by
  refine mk_L (cc := cX5_power) (maxL := 6) (ret := some .long) (by decide) rfl (Nat.le_of_ble_eq_true rfl) ?_
  intro p e s m args below meth c A X hret
  refine z_lv (lv' := [(0, .long (jL by_)), (2, .int (jI n))]) [0, 1] rfl ?_
  refine z_lconst (pc' := 1) (x := 1) X dX5_power_0 rfl rfl ?_
  refine z_lstore_n (pc' := 2) (lv' := [(3, .long (jL 1)), (0, .long (jL by_)), (2, .int (jI n))]) X dX5_power_1 rfl rfl (by decide) rfl ?_
  refine z_iconst (pc' := 3) X dX5_power_2 rfl ?_
  refine z_istore (pc' := 5) (lv' := [(5, .int (jI 0)), (3, .long (jL 1)), (0, .long (jL by_)), (2, .int (jI n))]) X dX5_power_3 rfl (by decide) rfl ?_
  have lp5 : ∀ (nF : Nat) (k : Int) (its : Int) , ((0 ≤ k ∧ (k ≤ n ∨ k = 0)) ∧ its = by_ ^ k.toNat) → ((n - k).toNat : Nat) < nF → J p l e (headSpec wsX5_power ({ frames := 0, cells := 0, slots := 0, locals := 0 } : Room)).room s m args below meth c D A 6 (MQ below (va_Ql (fun r u => ∃ x, r = jL x ∧ (fun (rv : Int) (_ : Unit) => rv = by_ ^ n.toNat) x u) (Bw D (fun _ : Unit => ([] : va_W)) A) A) args s 0 0 A) 5 [(5, .int (jI k)), (3, .long (jL its)), (0, .long (jL by_)), (2, .int (jI n))] [] ([]) := by
    intro nF
    induction nF with
    | zero => intro k its  hI hn; exact absurd hn (Nat.not_lt_zero _)
    | succ nF ih5 =>
      intro k its  hI hn
      obtain ⟨h1, h2⟩ := hI
      refine z_iload (pc' := 7) X dX5_power_5 rfl 0 rfl ?_
      refine z_iload_n (pc' := 8) X dX5_power_7 rfl 3 rfl rfl ?_
      refine z_icmp_ge (tgt := 21) (pc' := 11) X dX5_power_8 (by decide) rfl (by omega) (fun h8 => ?_) (fun h8 => ?_)
      · refine z_lload_n (pc' := 22) X dX5_power_21 rfl 1 rfl rfl ?_
        exact z_lret (post := (fun (rv : Int) (_ : Unit) => rv = by_ ^ n.toNat)) X dX5_power_22 hret () (by rw [h2, show k.toNat = n.toNat by omega])
      · refine z_lload_n (pc' := 12) X dX5_power_11 rfl 1 rfl rfl ?_
        refine z_lload_n (pc' := 13) X dX5_power_12 rfl 2 rfl rfl ?_
        refine z_lmul (pc' := 14) X dX5_power_13 rfl ?_
        refine z_lstore_n (pc' := 15) (lv' := [(3, .long (jL (its * by_))), (5, .int (jI k)), (0, .long (jL by_)), (2, .int (jI n))]) X dX5_power_14 rfl rfl (by decide) rfl ?_
        refine z_iinc (pc' := 18) (lv' := [(5, .int (jI (k + 1))), (3, .long (jL (its * by_))), (0, .long (jL by_)), (2, .int (jI n))]) X dX5_power_15 rfl 1 rfl (by decide) rfl ?_
        refine z_goto (tgt := 5) X dX5_power_18 (by decide) ?_
        exact ih5 (k + 1) (its * by_)  (⟨by omega, by rw [h2, show (k + 1).toNat = k.toNat + 1 by omega]; exact (Int.pow_succ _ _).symm⟩) (by omega)
  exact lp5 _ 0 1  (⟨by omega, by simp⟩) (Nat.lt_succ_self _)
set_option maxHeartbeats 4000000 in
set_option maxRecDepth 100000 in
theorem kX5_part (l : Launch) (D : va_G) (E : Nat → Nat) (rest twos threes which : Int) (hr : (-2147483647 ≤ twos ∧ twos < 2147483648) ∧ (-2147483647 ≤ threes ∧ threes < 2147483648) ∧ (0 ≤ which ∧ which ≤ 1)) : CtL l D E yX5_part wsX5_part ({ frames := 1, cells := 0, slots := 0, locals := 25 } : Room) [.long (jL rest), .int (jI twos), .int (jI threes), .int (jI which)] ([]) (fun _ : Unit => ([] : va_W)) (fun (rv : Int) (_ : Unit) => rv = (if which = 0 then rest * pU twos threes else pU (-twos) (-threes))) := by
  refine mk_L (cc := cX5_part) (maxL := 5) (ret := some .long) (by decide) rfl (Nat.le_of_ble_eq_true rfl) ?_
  intro p e s m args below meth c A X hret
  refine z_lv (lv' := [(0, .long (jL rest)), (2, .int (jI twos)), (3, .int (jI threes)), (4, .int (jI which))]) [0, 1, 2, 3] rfl ?_
  refine z_iload (pc' := 2) X dX5_part_0 rfl 3 rfl ?_
  refine z_if_ne (tgt := 23) (pc' := 5) X dX5_part_2 (by decide) rfl (by omega) (fun h2 => ?_) (fun h2 => ?_)
  · refine z_ldc2 (pc' := 26) (x := 2) X dX5_part_23 rfl (by decide +kernel) rfl ?_
    refine z_iload_n (pc' := 27) X dX5_part_26 rfl 1 rfl rfl ?_
    refine z_ineg (pc' := 28) X dX5_part_27 rfl ?_
    refine z_callPL (pc' := 31) (S := Unit) (As := [.long (jL 2), .int (jI (-twos))]) (rest := []) X dX5_part_28 rfl (kX5_power l D E 2 (-twos)  (by omega)) (va_cwS 2 X.1.2.2.2.2 gX5_part_X5_power rfl rfl rfl (by decide +kernel) ⟨Nat.le_of_ble_eq_true rfl, Nat.le_of_ble_eq_true rfl⟩) rfl rfl (Nat.le_of_ble_eq_true rfl) (fun r28 u28 hp28 => ?_)
    replace hp28 := hp28.symm; subst hp28
    refine z_ldc2 (pc' := 34) (x := 3) X dX5_part_31 rfl (by decide +kernel) rfl ?_
    refine z_iload_n (pc' := 35) X dX5_part_34 rfl 2 rfl rfl ?_
    refine z_ineg (pc' := 36) X dX5_part_35 rfl ?_
    refine z_callPL (pc' := 39) (S := Unit) (As := [.long (jL 3), .int (jI (-threes))]) (rest := [.long (jL (2 ^ (-twos).toNat))]) X dX5_part_36 rfl (kX5_power l D E 3 (-threes)  (by omega)) (va_cwS 2 X.1.2.2.2.2 gX5_part_X5_power rfl rfl rfl (by decide +kernel) ⟨Nat.le_of_ble_eq_true rfl, Nat.le_of_ble_eq_true rfl⟩) rfl rfl (Nat.le_of_ble_eq_true rfl) (fun r36 u36 hp36 => ?_)
    replace hp36 := hp36.symm; subst hp36
    refine z_lmul (pc' := 40) X dX5_part_39 rfl ?_
    exact z_lret (post := (fun (rv : Int) (_ : Unit) => rv = (if which = 0 then rest * pU twos threes else pU (-twos) (-threes)))) X dX5_part_40 hret () (by rw [if_neg (by omega)]; rfl)
  · refine z_lload_n (pc' := 6) X dX5_part_5 rfl 0 rfl rfl ?_
    refine z_ldc2 (pc' := 9) (x := 2) X dX5_part_6 rfl (by decide +kernel) rfl ?_
    refine z_iload_n (pc' := 10) X dX5_part_9 rfl 1 rfl rfl ?_
    refine z_callPL (pc' := 13) (S := Unit) (As := [.long (jL 2), .int (jI twos)]) (rest := [.long (jL rest)]) X dX5_part_10 rfl (kX5_power l D E 2 twos  (by omega)) (va_cwS 2 X.1.2.2.2.2 gX5_part_X5_power rfl rfl rfl (by decide +kernel) ⟨Nat.le_of_ble_eq_true rfl, Nat.le_of_ble_eq_true rfl⟩) rfl rfl (Nat.le_of_ble_eq_true rfl) (fun r10 u10 hp10 => ?_)
    replace hp10 := hp10.symm; subst hp10
    refine z_lmul (pc' := 14) X dX5_part_13 rfl ?_
    refine z_ldc2 (pc' := 17) (x := 3) X dX5_part_14 rfl (by decide +kernel) rfl ?_
    refine z_iload_n (pc' := 18) X dX5_part_17 rfl 2 rfl rfl ?_
    refine z_callPL (pc' := 21) (S := Unit) (As := [.long (jL 3), .int (jI threes)]) (rest := [.long (jL (rest * (2 ^ twos.toNat)))]) X dX5_part_18 rfl (kX5_power l D E 3 threes  (by omega)) (va_cwS 2 X.1.2.2.2.2 gX5_part_X5_power rfl rfl rfl (by decide +kernel) ⟨Nat.le_of_ble_eq_true rfl, Nat.le_of_ble_eq_true rfl⟩) rfl rfl (Nat.le_of_ble_eq_true rfl) (fun r18 u18 hp18 => ?_)
    replace hp18 := hp18.symm; subst hp18
    refine z_lmul (pc' := 22) X dX5_part_21 rfl ?_
    exact z_lret (post := (fun (rv : Int) (_ : Unit) => rv = (if which = 0 then rest * pU twos threes else pU (-twos) (-threes)))) X dX5_part_22 hret () (by rw [if_pos (by omega), Int.mul_assoc]; rfl)
set_option maxHeartbeats 4000000 in
set_option maxRecDepth 100000 in
theorem kX5_countOfFactor (l : Launch) (D : va_G) (E : Nat → Nat) (n factor : Int) (hr : (20 ≤ n ∧ n ≤ 400) ∧ (2 ≤ factor ∧ factor ≤ 3)) : CtI l D E yX5_countOfFactor wsX5_countOfFactor ({ frames := 0, cells := 0, slots := 0, locals := 0 } : Room) [.int (jI n), .int (jI factor)] ([]) (fun _ : Unit => ([] : va_W)) (fun (rv : Int) (_ : Unit) => rv = tin factor n) := by
  refine mk_I (cc := cX5_countOfFactor) (maxL := 4) (ret := some .int) (by decide) rfl (Nat.le_of_ble_eq_true rfl) ?_
  intro p e s m args below meth c A X hret
  refine z_lv (lv' := [(0, .int (jI n)), (1, .int (jI factor))]) [0, 1] rfl ?_
  refine z_iload_n (pc' := 1) X dX5_countOfFactor_0 rfl 0 rfl rfl ?_
  refine z_istore_n (pc' := 2) (lv' := [(2, .int (jI n)), (0, .int (jI n)), (1, .int (jI factor))]) X dX5_countOfFactor_1 rfl rfl (by decide) rfl ?_
  refine z_iconst (pc' := 3) X dX5_countOfFactor_2 rfl ?_
  refine z_istore_n (pc' := 4) (lv' := [(3, .int (jI 0)), (2, .int (jI n)), (0, .int (jI n)), (1, .int (jI factor))]) X dX5_countOfFactor_3 rfl rfl (by decide) rfl ?_
  have lp4 : ∀ (nF : Nat) (count : Int) (left : Int) , ((0 ≤ count ∧ count ≤ 9) ∧ (1 ≤ left ∧ left ≤ n) ∧ count + tin factor left = tin factor n ∧ left * 2 ^ count.toNat ≤ n) → (left.toNat : Nat) < nF → J p l e (headSpec wsX5_countOfFactor ({ frames := 0, cells := 0, slots := 0, locals := 0 } : Room)).room s m args below meth c D A 4 (MQ below (va_Qi (fun r u => ∃ x, r = jI x ∧ (fun (rv : Int) (_ : Unit) => rv = tin factor n) x u) (Bw D (fun _ : Unit => ([] : va_W)) A) A) args s 0 0 A) 4 [(3, .int (jI count)), (2, .int (jI left)), (0, .int (jI n)), (1, .int (jI factor))] [] ([]) := by
    intro nF
    induction nF with
    | zero => intro count left  hI hn; exact absurd hn (Nat.not_lt_zero _)
    | succ nF ih4 =>
      intro count left  hI hn
      obtain ⟨h1, h2, h3, h4⟩ := hI
      refine z_iload_n (pc' := 5) X dX5_countOfFactor_4 rfl 0 rfl rfl ?_
      refine z_bipush (pc' := 7) X dX5_countOfFactor_5 rfl rfl ?_
      refine z_icmp_ge (tgt := 31) (pc' := 10) X dX5_countOfFactor_7 (by decide) rfl (by omega) (fun h7 => by exfalso; exact cf_no h2.1 h1 hr.1.2 h4 (by omega)) (fun h7 => ?_)
      refine z_iload_n (pc' := 11) X dX5_countOfFactor_10 rfl 3 rfl rfl ?_
      refine z_iconst (pc' := 12) X dX5_countOfFactor_11 rfl ?_
      refine z_icmp_le (tgt := 31) (pc' := 15) X dX5_countOfFactor_12 (by decide) rfl (by omega) (fun h12 => by exfalso; omega) (fun h12 => ?_)
      refine z_iload_n (pc' := 16) X dX5_countOfFactor_15 rfl 1 rfl rfl ?_
      refine z_iload_n (pc' := 17) X dX5_countOfFactor_16 rfl 3 rfl rfl ?_
      refine z_irem (pc' := 18) X dX5_countOfFactor_17 rfl (by omega) ?_
      refine z_if_ne (tgt := 31) (pc' := 21) X dX5_countOfFactor_18 (by decide) rfl (by (have := Int.emod_nonneg left (show factor ≠ 0 by omega); have := Int.emod_lt_of_pos left (show 0 < factor by omega); omega)) (fun h18 => ?_) (fun h18 => ?_)
      · refine z_iload_n (pc' := 32) X dX5_countOfFactor_31 rfl 0 rfl rfl ?_
        exact z_iret (post := (fun (rv : Int) (_ : Unit) => rv = tin factor n)) X dX5_countOfFactor_32 hret () (by have := tin_no h2.1 h18; omega)
      · have hd := tin_dv h2.1 (show 2 ≤ factor by omega) h18
        refine z_iload_n (pc' := 22) X dX5_countOfFactor_21 rfl 1 rfl rfl ?_
        refine z_iload_n (pc' := 23) X dX5_countOfFactor_22 rfl 3 rfl rfl ?_
        refine z_idiv (pc' := 24) X dX5_countOfFactor_23 rfl (by omega) ?_
        refine z_istore_n (pc' := 25) (lv' := [(2, .int (jI (left / factor))), (3, .int (jI count)), (0, .int (jI n)), (1, .int (jI factor))]) X dX5_countOfFactor_24 rfl rfl (by decide) rfl ?_
        refine z_iinc (pc' := 28) (lv' := [(3, .int (jI (count + 1))), (2, .int (jI (left / factor))), (0, .int (jI n)), (1, .int (jI factor))]) X dX5_countOfFactor_25 rfl 1 rfl (by decide) rfl ?_
        refine z_goto (tgt := 4) X dX5_countOfFactor_28 (by decide) ?_
        exact ih4 (count + 1) (left / factor)  (⟨by omega, by omega, by omega, cf_step h2.1 h1.1 (by omega) h4⟩) (by omega)
  exact lp4 _ 0 n  (⟨by omega, by omega, by omega, by simp⟩) (Nat.lt_succ_self _)
set_option maxHeartbeats 4000000 in
set_option maxRecDepth 100000 in
theorem kX5_restOf (l : Launch) (D : va_G) (E : Nat → Nat) (n : Int) (hr : 20 ≤ n ∧ n ≤ 400) : CtL l D E yX5_restOf wsX5_restOf ({ frames := 1, cells := 0, slots := 0, locals := 25 } : Room) [.int (jI n)] ([]) (fun _ : Unit => ([] : va_W)) (fun (rv : Int) (_ : Unit) => rv = rsF n) := by
  refine mk_L (cc := cX5_restOf) (maxL := 3) (ret := some .long) (by decide) rfl (Nat.le_of_ble_eq_true rfl) ?_
  intro p e s m args below meth c A X hret
  refine z_lv (lv' := [(0, .int (jI n))]) [0] rfl ?_
  obtain ⟨t2, t3, t4, t5, t6⟩ := tin_all hr
  have pp : 2 ^ (tin 2 n).toNat * 3 ^ (tin 3 n).toNat = pU (tin 2 n) (tin 3 n) := rfl
  have p1 := pU_pos (tin 2 n) (tin 3 n)
  have p2 := pU_le8 t2 t3
  refine z_ldc2 (pc' := 3) (x := 2) X dX5_restOf_0 rfl (by decide +kernel) rfl ?_
  refine z_iload_n (pc' := 4) X dX5_restOf_3 rfl 0 rfl rfl ?_
  refine z_iconst (pc' := 5) X dX5_restOf_4 rfl ?_
  refine z_callPI (pc' := 8) (S := Unit) (As := [.int (jI n), .int (jI 2)]) (rest := [.long (jL 2)]) X dX5_restOf_5 rfl (kX5_countOfFactor l D E n 2  (by omega)) (va_cwS 2 X.1.2.2.2.2 gX5_restOf_X5_countOfFactor rfl rfl rfl (by decide +kernel) ⟨Nat.le_of_ble_eq_true rfl, Nat.le_of_ble_eq_true rfl⟩) rfl rfl (Nat.le_of_ble_eq_true rfl) (fun r5 u5 hp5 => ?_)
  replace hp5 := hp5.symm; subst hp5
  refine z_callPL (pc' := 11) (S := Unit) (As := [.long (jL 2), .int (jI (tin 2 n))]) (rest := []) X dX5_restOf_8 rfl (kX5_power l D E 2 (tin 2 n)  (by omega)) (va_cwS 2 X.1.2.2.2.2 gX5_restOf_X5_power rfl rfl rfl (by decide +kernel) ⟨Nat.le_of_ble_eq_true rfl, Nat.le_of_ble_eq_true rfl⟩) rfl rfl (Nat.le_of_ble_eq_true rfl) (fun r8 u8 hp8 => ?_)
  replace hp8 := hp8.symm; subst hp8
  refine z_ldc2 (pc' := 14) (x := 3) X dX5_restOf_11 rfl (by decide +kernel) rfl ?_
  refine z_iload_n (pc' := 15) X dX5_restOf_14 rfl 0 rfl rfl ?_
  refine z_iconst (pc' := 16) X dX5_restOf_15 rfl ?_
  refine z_callPI (pc' := 19) (S := Unit) (As := [.int (jI n), .int (jI 3)]) (rest := [.long (jL 3), .long (jL (2 ^ (tin 2 n).toNat))]) X dX5_restOf_16 rfl (kX5_countOfFactor l D E n 3  (by omega)) (va_cwS 2 X.1.2.2.2.2 gX5_restOf_X5_countOfFactor rfl rfl rfl (by decide +kernel) ⟨Nat.le_of_ble_eq_true rfl, Nat.le_of_ble_eq_true rfl⟩) rfl rfl (Nat.le_of_ble_eq_true rfl) (fun r16 u16 hp16 => ?_)
  replace hp16 := hp16.symm; subst hp16
  refine z_callPL (pc' := 22) (S := Unit) (As := [.long (jL 3), .int (jI (tin 3 n))]) (rest := [.long (jL (2 ^ (tin 2 n).toNat))]) X dX5_restOf_19 rfl (kX5_power l D E 3 (tin 3 n)  (by omega)) (va_cwS 2 X.1.2.2.2.2 gX5_restOf_X5_power rfl rfl rfl (by decide +kernel) ⟨Nat.le_of_ble_eq_true rfl, Nat.le_of_ble_eq_true rfl⟩) rfl rfl (Nat.le_of_ble_eq_true rfl) (fun r19 u19 hp19 => ?_)
  replace hp19 := hp19.symm; subst hp19
  refine z_lmul (pc' := 23) X dX5_restOf_22 rfl ?_
  refine z_lstore_n (pc' := 24) (lv' := [(1, .long (jL ((2 ^ (tin 2 n).toNat) * (3 ^ (tin 3 n).toNat)))), (0, .int (jI n))]) X dX5_restOf_23 rfl rfl (by decide) rfl ?_
  refine z_lload_n (pc' := 25) X dX5_restOf_24 rfl 0 rfl rfl ?_
  refine z_lconst (pc' := 26) (x := 0) X dX5_restOf_25 rfl rfl ?_
  refine z_lcmp_le (tgt := 37) (pc' := 30) X dX5_restOf_26 (pc1 := 27) rfl dX5_restOf_27 (by decide) rfl (by (rw [pp]; omega)) (fun h26 => by exfalso; rw [pp] at h26; omega) (fun h26 => ?_)
  refine z_iload_n (pc' := 31) X dX5_restOf_30 rfl 1 rfl rfl ?_
  refine z_i2l (pc' := 32) X dX5_restOf_31 rfl (by omega) ?_
  refine z_lload_n (pc' := 33) X dX5_restOf_32 rfl 0 rfl rfl ?_
  refine z_ldiv (pc' := 34) X dX5_restOf_33 rfl (by (rw [pp]; omega)) ?_
  refine z_goto (tgt := 39) X dX5_restOf_34 (by decide) ?_
  exact z_lret (post := (fun (rv : Int) (_ : Unit) => rv = rsF n)) X dX5_restOf_39 hret () (by rfl)
set_option maxHeartbeats 4000000 in
set_option maxRecDepth 100000 in
theorem kX3_addSection (l : Launch) (D : va_G) (E : Nat → Nat) (q : Nat → Nat) (σ : St) (n : Int) (hwf : WfC σ) (hr : σ 1 0 < 7) : CtI l D E yX3_addSection wsX3_addSection ({ frames := 0, cells := 0, slots := 0, locals := 0 } : Room) [.ref (q 36), .int (jI n)] (CW E q σ) (CW E q) (fun (rv : Int) (uu : St) => (rv = σ 1 0 ∧ uu = up (up (up σ 2 (σ 1 0) n) 3 (σ 1 0) (-9)) 1 0 (σ 1 0 + 1))) := by
  refine mk_I (cc := cX3_addSection) (maxL := 2) (ret := some .int) (by decide) rfl (Nat.le_of_ble_eq_true rfl) ?_
  intro p e s m args below meth c A X hret
  have hin3 : ∀ x ∈ u_ws RX3 TX3 9, x ∈ wsX3_addSection := fun _ h => List.mem_cons_of_mem _ (List.mem_append_right _ h)
  refine z_lv (lv' := [(0, .ref (q 36)), (1, .int (jI n))]) [0, 1] rfl ?_
  obtain ⟨n1, n0, n4, n16⟩ := hwf.n
  refine z_aload_n (pc' := 1) X dX3_addSection_0 rfl 0 rfl rfl ?_
  refine z_get (pc' := 4) (C := RX3) (ref := "PivotBeats$Piece") (T := TX3) (N := 9) (v := .ref (q 2)) X dX3_addSection_1 rfl hin3 1 rfl rfl 1 (by decide) (by decide +kernel) rfl rfl ?_
  refine z_aload_n (pc' := 5) X dX3_addSection_4 rfl 0 rfl rfl ?_
  refine z_get (pc' := 8) (C := RX3) (ref := "PivotBeats$Piece") (T := TX3) (N := 9) (v := .int (jI (σ 1 0))) X dX3_addSection_5 rfl hin3 1 rfl rfl 0 (by decide) (by decide +kernel) rfl rfl ?_
  refine z_iload_n (pc' := 9) X dX3_addSection_8 rfl 1 rfl rfl ?_
  refine z_iast (pc' := 10) (f := σ 2) (n := 7) (w' := CW E q (up σ 2 (σ 1 0) n)) X dX3_addSection_9 rfl 6 rfl (by decide) (by omega) rfl ?_
  refine z_aload_n (pc' := 11) X dX3_addSection_10 rfl 0 rfl rfl ?_
  refine z_get (pc' := 14) (C := RX3) (ref := "PivotBeats$Piece") (T := TX3) (N := 9) (v := .ref (q 3)) X dX3_addSection_11 rfl hin3 1 rfl rfl 2 (by decide) (by decide +kernel) rfl rfl ?_
  refine z_aload_n (pc' := 15) X dX3_addSection_14 rfl 0 rfl rfl ?_
  refine z_get (pc' := 18) (C := RX3) (ref := "PivotBeats$Piece") (T := TX3) (N := 9) (v := .int (jI (σ 1 0))) X dX3_addSection_15 rfl hin3 1 rfl rfl 0 (by decide) (by decide +kernel) rfl rfl ?_
  refine z_bipush (pc' := 20) X dX3_addSection_18 rfl rfl ?_
  refine z_iast (pc' := 21) (f := σ 3) (n := 7) (w' := CW E q (up (up σ 2 (σ 1 0) n) 3 (σ 1 0) (-9))) X dX3_addSection_20 rfl 7 rfl (by decide) (by omega) rfl ?_
  refine z_aload_n (pc' := 22) X dX3_addSection_21 rfl 0 rfl rfl ?_
  refine z_dup (pc' := 23) X dX3_addSection_22 rfl rfl ?_
  refine z_get (pc' := 26) (C := RX3) (ref := "PivotBeats$Piece") (T := TX3) (N := 9) (v := .int (jI (σ 1 0))) X dX3_addSection_23 rfl hin3 1 rfl rfl 0 (by decide) (by decide +kernel) rfl rfl ?_
  refine z_iconst (pc' := 27) X dX3_addSection_26 rfl ?_
  refine z_iadd (pc' := 28) X dX3_addSection_27 rfl ?_
  refine z_put (pc' := 31) (C := RX3) (ref := "PivotBeats$Piece") (T := TX3) (N := 9) (ty := .int) (w' := CW E q (up (up (up σ 2 (σ 1 0) n) 3 (σ 1 0) (-9)) 1 0 ((σ 1 0) + 1))) X dX3_addSection_28 rfl hin3 tyX3 tyX3_ok nmX3 1 rfl rfl 0 (by decide) (by decide +kernel) rfl rfl (by decide +kernel) rfl rfl (Nat.le_of_ble_eq_true rfl) rfl ?_
  refine z_aload_n (pc' := 32) X dX3_addSection_31 rfl 0 rfl rfl ?_
  refine z_get (pc' := 35) (C := RX3) (ref := "PivotBeats$Piece") (T := TX3) (N := 9) (v := .int (jI ((σ 1 0) + 1))) X dX3_addSection_32 rfl hin3 1 rfl rfl 0 (by decide) (by decide +kernel) rfl rfl ?_
  refine z_iconst (pc' := 36) X dX3_addSection_35 rfl ?_
  refine z_isub (pc' := 37) X dX3_addSection_36 rfl ?_
  exact z_iret (post := (fun (rv : Int) (uu : St) => (rv = σ 1 0 ∧ uu = up (up (up σ 2 (σ 1 0) n) 3 (σ 1 0) (-9)) 1 0 (σ 1 0 + 1)))) X dX3_addSection_37 hret (up (up (up σ 2 (σ 1 0) n) 3 (σ 1 0) (-9)) 1 0 ((σ 1 0) + 1)) (⟨by omega, rfl⟩)
set_option maxHeartbeats 4000000 in
set_option maxRecDepth 100000 in
theorem kX3_addTie (l : Launch) (D : va_G) (E : Nat → Nat) (q : Nat → Nat) (σ : St) (a v b w ear : Int) (hwf : WfC σ) (hr : σ 4 0 < 12) : CtI l D E yX3_addTie wsX3_addTie ({ frames := 0, cells := 0, slots := 0, locals := 0 } : Room) [.ref (q 36), .int (jI a), .int (jI v), .int (jI b), .int (jI w), .int (jI ear)] (CW E q σ) (CW E q) (fun (rv : Int) (uu : St) => (rv = σ 4 0 ∧ uu = up (up (up (up (up (up σ 5 (σ 4 0) a) 6 (σ 4 0) v) 7 (σ 4 0) b) 8 (σ 4 0) w) 9 (σ 4 0) ear) 4 0 (σ 4 0 + 1))) := by
  refine mk_I (cc := cX3_addTie) (maxL := 6) (ret := some .int) (by decide) rfl (Nat.le_of_ble_eq_true rfl) ?_
  intro p e s m args below meth c A X hret
  have hin3 : ∀ x ∈ u_ws RX3 TX3 9, x ∈ wsX3_addTie := fun _ h => List.mem_cons_of_mem _ (List.mem_append_right _ h)
  refine z_lv (lv' := [(0, .ref (q 36)), (1, .int (jI a)), (2, .int (jI v)), (3, .int (jI b)), (4, .int (jI w)), (5, .int (jI ear))]) [0, 1, 2, 3, 4, 5] rfl ?_
  obtain ⟨n1, n0, n4, n16⟩ := hwf.n
  refine z_aload_n (pc' := 1) X dX3_addTie_0 rfl 0 rfl rfl ?_
  refine z_get (pc' := 4) (C := RX3) (ref := "PivotBeats$Piece") (T := TX3) (N := 9) (v := .ref (q 5)) X dX3_addTie_1 rfl hin3 1 rfl rfl 4 (by decide) (by decide +kernel) rfl rfl ?_
  refine z_aload_n (pc' := 5) X dX3_addTie_4 rfl 0 rfl rfl ?_
  refine z_get (pc' := 8) (C := RX3) (ref := "PivotBeats$Piece") (T := TX3) (N := 9) (v := .int (jI (σ 4 0))) X dX3_addTie_5 rfl hin3 1 rfl rfl 3 (by decide) (by decide +kernel) rfl rfl ?_
  refine z_iload_n (pc' := 9) X dX3_addTie_8 rfl 1 rfl rfl ?_
  refine z_iast (pc' := 10) (f := σ 5) (n := 12) (w' := CW E q (up σ 5 (σ 4 0) a)) X dX3_addTie_9 rfl 8 rfl (by decide) (by omega) rfl ?_
  refine z_aload_n (pc' := 11) X dX3_addTie_10 rfl 0 rfl rfl ?_
  refine z_get (pc' := 14) (C := RX3) (ref := "PivotBeats$Piece") (T := TX3) (N := 9) (v := .ref (q 6)) X dX3_addTie_11 rfl hin3 1 rfl rfl 5 (by decide) (by decide +kernel) rfl rfl ?_
  refine z_aload_n (pc' := 15) X dX3_addTie_14 rfl 0 rfl rfl ?_
  refine z_get (pc' := 18) (C := RX3) (ref := "PivotBeats$Piece") (T := TX3) (N := 9) (v := .int (jI (σ 4 0))) X dX3_addTie_15 rfl hin3 1 rfl rfl 3 (by decide) (by decide +kernel) rfl rfl ?_
  refine z_iload_n (pc' := 19) X dX3_addTie_18 rfl 2 rfl rfl ?_
  refine z_iast (pc' := 20) (f := σ 6) (n := 12) (w' := CW E q (up (up σ 5 (σ 4 0) a) 6 (σ 4 0) v)) X dX3_addTie_19 rfl 9 rfl (by decide) (by omega) rfl ?_
  refine z_aload_n (pc' := 21) X dX3_addTie_20 rfl 0 rfl rfl ?_
  refine z_get (pc' := 24) (C := RX3) (ref := "PivotBeats$Piece") (T := TX3) (N := 9) (v := .ref (q 7)) X dX3_addTie_21 rfl hin3 1 rfl rfl 6 (by decide) (by decide +kernel) rfl rfl ?_
  refine z_aload_n (pc' := 25) X dX3_addTie_24 rfl 0 rfl rfl ?_
  refine z_get (pc' := 28) (C := RX3) (ref := "PivotBeats$Piece") (T := TX3) (N := 9) (v := .int (jI (σ 4 0))) X dX3_addTie_25 rfl hin3 1 rfl rfl 3 (by decide) (by decide +kernel) rfl rfl ?_
  refine z_iload_n (pc' := 29) X dX3_addTie_28 rfl 3 rfl rfl ?_
  refine z_iast (pc' := 30) (f := σ 7) (n := 12) (w' := CW E q (up (up (up σ 5 (σ 4 0) a) 6 (σ 4 0) v) 7 (σ 4 0) b)) X dX3_addTie_29 rfl 10 rfl (by decide) (by omega) rfl ?_
  refine z_aload_n (pc' := 31) X dX3_addTie_30 rfl 0 rfl rfl ?_
  refine z_get (pc' := 34) (C := RX3) (ref := "PivotBeats$Piece") (T := TX3) (N := 9) (v := .ref (q 8)) X dX3_addTie_31 rfl hin3 1 rfl rfl 7 (by decide) (by decide +kernel) rfl rfl ?_
  refine z_aload_n (pc' := 35) X dX3_addTie_34 rfl 0 rfl rfl ?_
  refine z_get (pc' := 38) (C := RX3) (ref := "PivotBeats$Piece") (T := TX3) (N := 9) (v := .int (jI (σ 4 0))) X dX3_addTie_35 rfl hin3 1 rfl rfl 3 (by decide) (by decide +kernel) rfl rfl ?_
  refine z_iload (pc' := 40) X dX3_addTie_38 rfl 4 rfl ?_
  refine z_iast (pc' := 41) (f := σ 8) (n := 12) (w' := CW E q (up (up (up (up σ 5 (σ 4 0) a) 6 (σ 4 0) v) 7 (σ 4 0) b) 8 (σ 4 0) w)) X dX3_addTie_40 rfl 11 rfl (by decide) (by omega) rfl ?_
  refine z_aload_n (pc' := 42) X dX3_addTie_41 rfl 0 rfl rfl ?_
  refine z_get (pc' := 45) (C := RX3) (ref := "PivotBeats$Piece") (T := TX3) (N := 9) (v := .ref (q 9)) X dX3_addTie_42 rfl hin3 1 rfl rfl 8 (by decide) (by decide +kernel) rfl rfl ?_
  refine z_aload_n (pc' := 46) X dX3_addTie_45 rfl 0 rfl rfl ?_
  refine z_get (pc' := 49) (C := RX3) (ref := "PivotBeats$Piece") (T := TX3) (N := 9) (v := .int (jI (σ 4 0))) X dX3_addTie_46 rfl hin3 1 rfl rfl 3 (by decide) (by decide +kernel) rfl rfl ?_
  refine z_iload (pc' := 51) X dX3_addTie_49 rfl 5 rfl ?_
  refine z_iast (pc' := 52) (f := σ 9) (n := 12) (w' := CW E q (up (up (up (up (up σ 5 (σ 4 0) a) 6 (σ 4 0) v) 7 (σ 4 0) b) 8 (σ 4 0) w) 9 (σ 4 0) ear)) X dX3_addTie_51 rfl 12 rfl (by decide) (by omega) rfl ?_
  refine z_aload_n (pc' := 53) X dX3_addTie_52 rfl 0 rfl rfl ?_
  refine z_dup (pc' := 54) X dX3_addTie_53 rfl rfl ?_
  refine z_get (pc' := 57) (C := RX3) (ref := "PivotBeats$Piece") (T := TX3) (N := 9) (v := .int (jI (σ 4 0))) X dX3_addTie_54 rfl hin3 1 rfl rfl 3 (by decide) (by decide +kernel) rfl rfl ?_
  refine z_iconst (pc' := 58) X dX3_addTie_57 rfl ?_
  refine z_iadd (pc' := 59) X dX3_addTie_58 rfl ?_
  refine z_put (pc' := 62) (C := RX3) (ref := "PivotBeats$Piece") (T := TX3) (N := 9) (ty := .int) (w' := CW E q (up (up (up (up (up (up σ 5 (σ 4 0) a) 6 (σ 4 0) v) 7 (σ 4 0) b) 8 (σ 4 0) w) 9 (σ 4 0) ear) 4 0 ((σ 4 0) + 1))) X dX3_addTie_59 rfl hin3 tyX3 tyX3_ok nmX3 1 rfl rfl 3 (by decide) (by decide +kernel) rfl rfl (by decide +kernel) rfl rfl (Nat.le_of_ble_eq_true rfl) rfl ?_
  refine z_aload_n (pc' := 63) X dX3_addTie_62 rfl 0 rfl rfl ?_
  refine z_get (pc' := 66) (C := RX3) (ref := "PivotBeats$Piece") (T := TX3) (N := 9) (v := .int (jI ((σ 4 0) + 1))) X dX3_addTie_63 rfl hin3 1 rfl rfl 3 (by decide) (by decide +kernel) rfl rfl ?_
  refine z_iconst (pc' := 67) X dX3_addTie_66 rfl ?_
  refine z_isub (pc' := 68) X dX3_addTie_67 rfl ?_
  exact z_iret (post := (fun (rv : Int) (uu : St) => (rv = σ 4 0 ∧ uu = up (up (up (up (up (up σ 5 (σ 4 0) a) 6 (σ 4 0) v) 7 (σ 4 0) b) 8 (σ 4 0) w) 9 (σ 4 0) ear) 4 0 (σ 4 0 + 1)))) X dX3_addTie_68 hret (up (up (up (up (up (up σ 5 (σ 4 0) a) 6 (σ 4 0) v) 7 (σ 4 0) b) 8 (σ 4 0) w) 9 (σ 4 0) ear) 4 0 ((σ 4 0) + 1)) (⟨by omega, rfl⟩)
set_option maxHeartbeats 4000000 in
set_option maxRecDepth 100000 in
theorem kX3_removeTie (l : Launch) (D : va_G) (E : Nat → Nat) (q : Nat → Nat) (σ : St) (k : Int) (hwf : WfC σ) (hr : 0 ≤ k ∧ k < σ 4 0) : CtV l D E yX3_removeTie wsX3_removeTie ({ frames := 0, cells := 0, slots := 0, locals := 0 } : Room) [.ref (q 36), .int (jI k)] (CW E q σ) (CW E q) (fun (uu : St) => (∀ F, (F < 4 ∨ 9 < F) → uu F = σ F) ∧ uu 4 0 = σ 4 0 - 1 ∧ (∀ y, uu 5 y = (if k ≤ y ∧ y < σ 4 0 - 1 then σ 5 (y + 1) else σ 5 y)) ∧ (∀ y, uu 6 y = (if k ≤ y ∧ y < σ 4 0 - 1 then σ 6 (y + 1) else σ 6 y)) ∧ (∀ y, uu 7 y = (if k ≤ y ∧ y < σ 4 0 - 1 then σ 7 (y + 1) else σ 7 y)) ∧ (∀ y, uu 8 y = (if k ≤ y ∧ y < σ 4 0 - 1 then σ 8 (y + 1) else σ 8 y)) ∧ (∀ y, uu 9 y = (if k ≤ y ∧ y < σ 4 0 - 1 then σ 9 (y + 1) else σ 9 y))) := by
  refine mk_V (cc := cX3_removeTie) (maxL := 3) (ret := none) (by decide) rfl (Nat.le_of_ble_eq_true rfl) ?_
  intro p e s m args below meth c A X hret
  have hin3 : ∀ x ∈ u_ws RX3 TX3 9, x ∈ wsX3_removeTie := fun _ h => List.mem_cons_of_mem _ (List.mem_append_right _ h)
  refine z_lv (lv' := [(0, .ref (q 36)), (1, .int (jI k))]) [0, 1] rfl ?_
  obtain ⟨n1, n0, n4, n16⟩ := hwf.n
  refine z_iload_n (pc' := 1) X dX3_removeTie_0 rfl 1 rfl rfl ?_
  refine z_istore_n (pc' := 2) (lv' := [(2, .int (jI k)), (0, .ref (q 36)), (1, .int (jI k))]) X dX3_removeTie_1 rfl rfl (by decide) rfl ?_
  have lp2 : ∀ (nF : Nat) (x : Int) (u1 : St) , ((k ≤ x ∧ x ≤ σ 4 0 - 1) ∧ (∀ F, (F < 5 ∨ 9 < F) → u1 F = σ F) ∧ (∀ y, u1 5 y = (if k ≤ y ∧ y < x then σ 5 (y + 1) else σ 5 y)) ∧ (∀ y, u1 6 y = (if k ≤ y ∧ y < x then σ 6 (y + 1) else σ 6 y)) ∧ (∀ y, u1 7 y = (if k ≤ y ∧ y < x then σ 7 (y + 1) else σ 7 y)) ∧ (∀ y, u1 8 y = (if k ≤ y ∧ y < x then σ 8 (y + 1) else σ 8 y)) ∧ (∀ y, u1 9 y = (if k ≤ y ∧ y < x then σ 9 (y + 1) else σ 9 y))) → ((12 - x).toNat : Nat) < nF → J p l e (headSpec wsX3_removeTie ({ frames := 0, cells := 0, slots := 0, locals := 0 } : Room)).room s m args below meth c D A 3 (MQ below (va_Qv (fun (uu : St) => (∀ F, (F < 4 ∨ 9 < F) → uu F = σ F) ∧ uu 4 0 = σ 4 0 - 1 ∧ (∀ y, uu 5 y = (if k ≤ y ∧ y < σ 4 0 - 1 then σ 5 (y + 1) else σ 5 y)) ∧ (∀ y, uu 6 y = (if k ≤ y ∧ y < σ 4 0 - 1 then σ 6 (y + 1) else σ 6 y)) ∧ (∀ y, uu 7 y = (if k ≤ y ∧ y < σ 4 0 - 1 then σ 7 (y + 1) else σ 7 y)) ∧ (∀ y, uu 8 y = (if k ≤ y ∧ y < σ 4 0 - 1 then σ 8 (y + 1) else σ 8 y)) ∧ (∀ y, uu 9 y = (if k ≤ y ∧ y < σ 4 0 - 1 then σ 9 (y + 1) else σ 9 y))) (Bw D (CW E q) A) A) args s 0 0 A) 2 [(2, .int (jI x)), (0, .ref (q 36)), (1, .int (jI k))] [] (CW E q u1) := by
    intro nF
    induction nF with
    | zero => intro x u1  hI hn; exact absurd hn (Nat.not_lt_zero _)
    | succ nF ih2 =>
      intro x u1  hI hn
      obtain ⟨h1, h2, g5, g6, g7, g8, g9⟩ := hI
      have e4 : u1 4 0 = σ 4 0 := by rw [h2 4 (by decide)]
      refine z_iload_n (pc' := 3) X dX3_removeTie_2 rfl 0 rfl rfl ?_
      refine z_iconst (pc' := 4) X dX3_removeTie_3 rfl ?_
      refine z_iadd (pc' := 5) X dX3_removeTie_4 rfl ?_
      refine z_aload_n (pc' := 6) X dX3_removeTie_5 rfl 1 rfl rfl ?_
      refine z_get (pc' := 9) (C := RX3) (ref := "PivotBeats$Piece") (T := TX3) (N := 9) (v := .int (jI (u1 4 0))) X dX3_removeTie_6 rfl hin3 1 rfl rfl 3 (by decide) (by decide +kernel) rfl rfl ?_
      refine z_icmp_ge (tgt := 88) (pc' := 12) X dX3_removeTie_9 (by decide) rfl (by omega) (fun h9 => ?_) (fun h9 => ?_)
      · refine z_aload_n (pc' := 89) X dX3_removeTie_88 rfl 1 rfl rfl ?_
        refine z_dup (pc' := 90) X dX3_removeTie_89 rfl rfl ?_
        refine z_get (pc' := 93) (C := RX3) (ref := "PivotBeats$Piece") (T := TX3) (N := 9) (v := .int (jI (u1 4 0))) X dX3_removeTie_90 rfl hin3 1 rfl rfl 3 (by decide) (by decide +kernel) rfl rfl ?_
        refine z_iconst (pc' := 94) X dX3_removeTie_93 rfl ?_
        refine z_isub (pc' := 95) X dX3_removeTie_94 rfl ?_
        refine z_put (pc' := 98) (C := RX3) (ref := "PivotBeats$Piece") (T := TX3) (N := 9) (ty := .int) (w' := CW E q (up u1 4 0 ((u1 4 0) - 1))) X dX3_removeTie_95 rfl hin3 tyX3 tyX3_ok nmX3 1 rfl rfl 3 (by decide) (by decide +kernel) rfl rfl (by decide +kernel) rfl rfl (Nat.le_of_ble_eq_true rfl) rfl ?_
        exact z_vret (post := (fun (uu : St) => (∀ F, (F < 4 ∨ 9 < F) → uu F = σ F) ∧ uu 4 0 = σ 4 0 - 1 ∧ (∀ y, uu 5 y = (if k ≤ y ∧ y < σ 4 0 - 1 then σ 5 (y + 1) else σ 5 y)) ∧ (∀ y, uu 6 y = (if k ≤ y ∧ y < σ 4 0 - 1 then σ 6 (y + 1) else σ 6 y)) ∧ (∀ y, uu 7 y = (if k ≤ y ∧ y < σ 4 0 - 1 then σ 7 (y + 1) else σ 7 y)) ∧ (∀ y, uu 8 y = (if k ≤ y ∧ y < σ 4 0 - 1 then σ 8 (y + 1) else σ 8 y)) ∧ (∀ y, uu 9 y = (if k ≤ y ∧ y < σ 4 0 - 1 then σ 9 (y + 1) else σ 9 y)))) X dX3_removeTie_98 hret (up u1 4 0 ((u1 4 0) - 1)) (⟨fun F hF => by rw [← h2 F (by omega)]; funext i; exact up_f _ _ _ _ (by omega), by rw [up_s, e4], fun y => by rw [← show x = σ 4 0 - 1 by omega]; exact g5 y, fun y => by rw [← show x = σ 4 0 - 1 by omega]; exact g6 y, fun y => by rw [← show x = σ 4 0 - 1 by omega]; exact g7 y, fun y => by rw [← show x = σ 4 0 - 1 by omega]; exact g8 y, fun y => by rw [← show x = σ 4 0 - 1 by omega]; exact g9 y⟩)
      · refine z_aload_n (pc' := 13) X dX3_removeTie_12 rfl 1 rfl rfl ?_
        refine z_get (pc' := 16) (C := RX3) (ref := "PivotBeats$Piece") (T := TX3) (N := 9) (v := .ref (q 5)) X dX3_removeTie_13 rfl hin3 1 rfl rfl 4 (by decide) (by decide +kernel) rfl rfl ?_
        refine z_iload_n (pc' := 17) X dX3_removeTie_16 rfl 0 rfl rfl ?_
        refine z_aload_n (pc' := 18) X dX3_removeTie_17 rfl 1 rfl rfl ?_
        refine z_get (pc' := 21) (C := RX3) (ref := "PivotBeats$Piece") (T := TX3) (N := 9) (v := .ref (q 5)) X dX3_removeTie_18 rfl hin3 1 rfl rfl 4 (by decide) (by decide +kernel) rfl rfl ?_
        refine z_iload_n (pc' := 22) X dX3_removeTie_21 rfl 0 rfl rfl ?_
        refine z_iconst (pc' := 23) X dX3_removeTie_22 rfl ?_
        refine z_iadd (pc' := 24) X dX3_removeTie_23 rfl ?_
        refine z_iald (pc' := 25) (f := u1 5) (n := 12) X dX3_removeTie_24 rfl 8 rfl (by decide) (by omega) ?_
        refine z_iast (pc' := 26) (f := u1 5) (n := 12) (w' := CW E q (up u1 5 x (u1 5 (x + 1)))) X dX3_removeTie_25 rfl 8 rfl (by decide) (by omega) rfl ?_
        refine z_aload_n (pc' := 27) X dX3_removeTie_26 rfl 1 rfl rfl ?_
        refine z_get (pc' := 30) (C := RX3) (ref := "PivotBeats$Piece") (T := TX3) (N := 9) (v := .ref (q 6)) X dX3_removeTie_27 rfl hin3 1 rfl rfl 5 (by decide) (by decide +kernel) rfl rfl ?_
        refine z_iload_n (pc' := 31) X dX3_removeTie_30 rfl 0 rfl rfl ?_
        refine z_aload_n (pc' := 32) X dX3_removeTie_31 rfl 1 rfl rfl ?_
        refine z_get (pc' := 35) (C := RX3) (ref := "PivotBeats$Piece") (T := TX3) (N := 9) (v := .ref (q 6)) X dX3_removeTie_32 rfl hin3 1 rfl rfl 5 (by decide) (by decide +kernel) rfl rfl ?_
        refine z_iload_n (pc' := 36) X dX3_removeTie_35 rfl 0 rfl rfl ?_
        refine z_iconst (pc' := 37) X dX3_removeTie_36 rfl ?_
        refine z_iadd (pc' := 38) X dX3_removeTie_37 rfl ?_
        refine z_iald (pc' := 39) (f := u1 6) (n := 12) X dX3_removeTie_38 rfl 9 rfl (by decide) (by omega) ?_
        refine z_iast (pc' := 40) (f := u1 6) (n := 12) (w' := CW E q (up (up u1 5 x (u1 5 (x + 1))) 6 x (u1 6 (x + 1)))) X dX3_removeTie_39 rfl 9 rfl (by decide) (by omega) rfl ?_
        refine z_aload_n (pc' := 41) X dX3_removeTie_40 rfl 1 rfl rfl ?_
        refine z_get (pc' := 44) (C := RX3) (ref := "PivotBeats$Piece") (T := TX3) (N := 9) (v := .ref (q 7)) X dX3_removeTie_41 rfl hin3 1 rfl rfl 6 (by decide) (by decide +kernel) rfl rfl ?_
        refine z_iload_n (pc' := 45) X dX3_removeTie_44 rfl 0 rfl rfl ?_
        refine z_aload_n (pc' := 46) X dX3_removeTie_45 rfl 1 rfl rfl ?_
        refine z_get (pc' := 49) (C := RX3) (ref := "PivotBeats$Piece") (T := TX3) (N := 9) (v := .ref (q 7)) X dX3_removeTie_46 rfl hin3 1 rfl rfl 6 (by decide) (by decide +kernel) rfl rfl ?_
        refine z_iload_n (pc' := 50) X dX3_removeTie_49 rfl 0 rfl rfl ?_
        refine z_iconst (pc' := 51) X dX3_removeTie_50 rfl ?_
        refine z_iadd (pc' := 52) X dX3_removeTie_51 rfl ?_
        refine z_iald (pc' := 53) (f := u1 7) (n := 12) X dX3_removeTie_52 rfl 10 rfl (by decide) (by omega) ?_
        refine z_iast (pc' := 54) (f := u1 7) (n := 12) (w' := CW E q (up (up (up u1 5 x (u1 5 (x + 1))) 6 x (u1 6 (x + 1))) 7 x (u1 7 (x + 1)))) X dX3_removeTie_53 rfl 10 rfl (by decide) (by omega) rfl ?_
        refine z_aload_n (pc' := 55) X dX3_removeTie_54 rfl 1 rfl rfl ?_
        refine z_get (pc' := 58) (C := RX3) (ref := "PivotBeats$Piece") (T := TX3) (N := 9) (v := .ref (q 8)) X dX3_removeTie_55 rfl hin3 1 rfl rfl 7 (by decide) (by decide +kernel) rfl rfl ?_
        refine z_iload_n (pc' := 59) X dX3_removeTie_58 rfl 0 rfl rfl ?_
        refine z_aload_n (pc' := 60) X dX3_removeTie_59 rfl 1 rfl rfl ?_
        refine z_get (pc' := 63) (C := RX3) (ref := "PivotBeats$Piece") (T := TX3) (N := 9) (v := .ref (q 8)) X dX3_removeTie_60 rfl hin3 1 rfl rfl 7 (by decide) (by decide +kernel) rfl rfl ?_
        refine z_iload_n (pc' := 64) X dX3_removeTie_63 rfl 0 rfl rfl ?_
        refine z_iconst (pc' := 65) X dX3_removeTie_64 rfl ?_
        refine z_iadd (pc' := 66) X dX3_removeTie_65 rfl ?_
        refine z_iald (pc' := 67) (f := u1 8) (n := 12) X dX3_removeTie_66 rfl 11 rfl (by decide) (by omega) ?_
        refine z_iast (pc' := 68) (f := u1 8) (n := 12) (w' := CW E q (up (up (up (up u1 5 x (u1 5 (x + 1))) 6 x (u1 6 (x + 1))) 7 x (u1 7 (x + 1))) 8 x (u1 8 (x + 1)))) X dX3_removeTie_67 rfl 11 rfl (by decide) (by omega) rfl ?_
        refine z_aload_n (pc' := 69) X dX3_removeTie_68 rfl 1 rfl rfl ?_
        refine z_get (pc' := 72) (C := RX3) (ref := "PivotBeats$Piece") (T := TX3) (N := 9) (v := .ref (q 9)) X dX3_removeTie_69 rfl hin3 1 rfl rfl 8 (by decide) (by decide +kernel) rfl rfl ?_
        refine z_iload_n (pc' := 73) X dX3_removeTie_72 rfl 0 rfl rfl ?_
        refine z_aload_n (pc' := 74) X dX3_removeTie_73 rfl 1 rfl rfl ?_
        refine z_get (pc' := 77) (C := RX3) (ref := "PivotBeats$Piece") (T := TX3) (N := 9) (v := .ref (q 9)) X dX3_removeTie_74 rfl hin3 1 rfl rfl 8 (by decide) (by decide +kernel) rfl rfl ?_
        refine z_iload_n (pc' := 78) X dX3_removeTie_77 rfl 0 rfl rfl ?_
        refine z_iconst (pc' := 79) X dX3_removeTie_78 rfl ?_
        refine z_iadd (pc' := 80) X dX3_removeTie_79 rfl ?_
        refine z_iald (pc' := 81) (f := u1 9) (n := 12) X dX3_removeTie_80 rfl 12 rfl (by decide) (by omega) ?_
        refine z_iast (pc' := 82) (f := u1 9) (n := 12) (w' := CW E q (up (up (up (up (up u1 5 x (u1 5 (x + 1))) 6 x (u1 6 (x + 1))) 7 x (u1 7 (x + 1))) 8 x (u1 8 (x + 1))) 9 x (u1 9 (x + 1)))) X dX3_removeTie_81 rfl 12 rfl (by decide) (by omega) rfl ?_
        refine z_iinc (pc' := 85) (lv' := [(2, .int (jI (x + 1))), (0, .ref (q 36)), (1, .int (jI k))]) X dX3_removeTie_82 rfl 0 rfl (by decide) rfl ?_
        refine z_goto (tgt := 2) X dX3_removeTie_85 (by decide) ?_
        exact ih2 (x + 1) (up (up (up (up (up u1 5 x (u1 5 (x + 1))) 6 x (u1 6 (x + 1))) 7 x (u1 7 (x + 1))) 8 x (u1 8 (x + 1))) 9 x (u1 9 (x + 1)))  (⟨by omega, fun F hF => by rw [← h2 F hF]; funext i; rw [up_f _ _ _ _ (by omega), up_f _ _ _ _ (by omega), up_f _ _ _ _ (by omega), up_f _ _ _ _ (by omega), up_f _ _ _ _ (by omega)], rm_step 5 h1.1 g5, rm_step 6 h1.1 g6, rm_step 7 h1.1 g7, rm_step 8 h1.1 g8, rm_step 9 h1.1 g9⟩) (by omega)
  exact lp2 _ k σ  (⟨by omega, fun _ _ => rfl, fun y => by rw [if_neg (by omega)], fun y => by rw [if_neg (by omega)], fun y => by rw [if_neg (by omega)], fun y => by rw [if_neg (by omega)], fun y => by rw [if_neg (by omega)]⟩) (Nat.lt_succ_self _)
set_option maxHeartbeats 4000000 in
set_option maxRecDepth 100000 in
theorem kX3_tiesAt (l : Launch) (D : va_G) (E : Nat → Nat) (q : Nat → Nat) (σ : St) (s_ : Int) (hwf : WfC σ) (hr : (-2147483648 ≤ s_ ∧ s_ < 2147483648)) : CtI l D E yX3_tiesAt wsX3_tiesAt ({ frames := 0, cells := 0, slots := 0, locals := 0 } : Room) [.ref (q 36), .int (jI s_)] (CW E q σ) (CW E q) (fun (rv : Int) (uu : St) => σ = uu ∧ rv = tAt (σ 5) (σ 7) (σ 4 0) s_) := by
  refine mk_I (cc := cX3_tiesAt) (maxL := 4) (ret := some .int) (by decide) rfl (Nat.le_of_ble_eq_true rfl) ?_
  intro p e s m args below meth c A X hret
  have hin3 : ∀ x ∈ u_ws RX3 TX3 9, x ∈ wsX3_tiesAt := fun _ h => List.mem_cons_of_mem _ (List.mem_append_right _ h)
  refine z_lv (lv' := [(0, .ref (q 36)), (1, .int (jI s_))]) [0, 1] rfl ?_
  obtain ⟨n1, n0, n4, n16⟩ := hwf.n
  refine z_iconst (pc' := 1) X dX3_tiesAt_0 rfl ?_
  refine z_istore_n (pc' := 2) (lv' := [(2, .int (jI 0)), (0, .ref (q 36)), (1, .int (jI s_))]) X dX3_tiesAt_1 rfl rfl (by decide) rfl ?_
  refine z_iconst (pc' := 3) X dX3_tiesAt_2 rfl ?_
  refine z_istore_n (pc' := 4) (lv' := [(3, .int (jI 0)), (2, .int (jI 0)), (0, .ref (q 36)), (1, .int (jI s_))]) X dX3_tiesAt_3 rfl rfl (by decide) rfl ?_
  have lp4 : ∀ (nF : Nat) (k : Int) (n_ : Int) , ((0 ≤ k ∧ k ≤ σ 4 0) ∧ n_ = smI (fun k => if σ 5 k = s_ then 1 else if σ 7 k = s_ then 1 else 0) k.toNat ∧ (0 ≤ n_ ∧ n_ ≤ k)) → ((12 - k).toNat : Nat) < nF → J p l e (headSpec wsX3_tiesAt ({ frames := 0, cells := 0, slots := 0, locals := 0 } : Room)).room s m args below meth c D A 4 (MQ below (va_Qi (fun r u => ∃ x, r = jI x ∧ (fun (rv : Int) (uu : St) => σ = uu ∧ rv = tAt (σ 5) (σ 7) (σ 4 0) s_) x u) (Bw D (CW E q) A) A) args s 0 0 A) 4 [(3, .int (jI k)), (2, .int (jI n_)), (0, .ref (q 36)), (1, .int (jI s_))] [] (CW E q σ) := by
    intro nF
    induction nF with
    | zero => intro k n_  hI hn; exact absurd hn (Nat.not_lt_zero _)
    | succ nF ih4 =>
      intro k n_  hI hn
      obtain ⟨h1, h2, h3⟩ := hI
      refine z_iload_n (pc' := 5) X dX3_tiesAt_4 rfl 0 rfl rfl ?_
      refine z_aload_n (pc' := 6) X dX3_tiesAt_5 rfl 2 rfl rfl ?_
      refine z_get (pc' := 9) (C := RX3) (ref := "PivotBeats$Piece") (T := TX3) (N := 9) (v := .int (jI (σ 4 0))) X dX3_tiesAt_6 rfl hin3 1 rfl rfl 3 (by decide) (by decide +kernel) rfl rfl ?_
      refine z_icmp_ge (tgt := 41) (pc' := 12) X dX3_tiesAt_9 (by decide) rfl (by omega) (fun h9 => ?_) (fun h9 => ?_)
      · refine z_iload_n (pc' := 42) X dX3_tiesAt_41 rfl 1 rfl rfl ?_
        exact z_iret (post := (fun (rv : Int) (uu : St) => σ = uu ∧ rv = tAt (σ 5) (σ 7) (σ 4 0) s_)) X dX3_tiesAt_42 hret σ (⟨rfl, by rw [h2]; unfold tAt; rw [show k = σ 4 0 by omega]⟩)
      · have ht := hwf.tie (k := k) (by omega) (by omega)
        refine z_aload_n (pc' := 13) X dX3_tiesAt_12 rfl 2 rfl rfl ?_
        refine z_get (pc' := 16) (C := RX3) (ref := "PivotBeats$Piece") (T := TX3) (N := 9) (v := .ref (q 5)) X dX3_tiesAt_13 rfl hin3 1 rfl rfl 4 (by decide) (by decide +kernel) rfl rfl ?_
        refine z_iload_n (pc' := 17) X dX3_tiesAt_16 rfl 0 rfl rfl ?_
        refine z_iald (pc' := 18) (f := σ 5) (n := 12) X dX3_tiesAt_17 rfl 8 rfl (by decide) (by omega) ?_
        refine z_iload_n (pc' := 19) X dX3_tiesAt_18 rfl 3 rfl rfl ?_
        refine z_icmp_eq (tgt := 32) (pc' := 22) X dX3_tiesAt_19 (by decide) rfl (by omega) (fun h19 => ?_) (fun h19 => ?_)
        · refine z_iinc (pc' := 35) (lv' := [(2, .int (jI (n_ + 1))), (3, .int (jI k)), (0, .ref (q 36)), (1, .int (jI s_))]) X dX3_tiesAt_32 rfl 1 rfl (by decide) rfl ?_
          refine z_iinc (pc' := 38) (lv' := [(3, .int (jI (k + 1))), (2, .int (jI (n_ + 1))), (0, .ref (q 36)), (1, .int (jI s_))]) X dX3_tiesAt_35 rfl 1 rfl (by decide) rfl ?_
          refine z_goto (tgt := 4) X dX3_tiesAt_38 (by decide) ?_
          exact ih4 (k + 1) (n_ + 1)  (⟨by omega, by rw [smI_succ _ h1.1, ← h2]; first | (rw [if_pos h19]; done) | (rw [if_neg h19, if_pos h29]; done) | (rw [if_neg h19, if_neg h29, Int.add_zero]; done), by omega⟩) (by omega)
        · refine z_aload_n (pc' := 23) X dX3_tiesAt_22 rfl 2 rfl rfl ?_
          refine z_get (pc' := 26) (C := RX3) (ref := "PivotBeats$Piece") (T := TX3) (N := 9) (v := .ref (q 7)) X dX3_tiesAt_23 rfl hin3 1 rfl rfl 6 (by decide) (by decide +kernel) rfl rfl ?_
          refine z_iload_n (pc' := 27) X dX3_tiesAt_26 rfl 0 rfl rfl ?_
          refine z_iald (pc' := 28) (f := σ 7) (n := 12) X dX3_tiesAt_27 rfl 10 rfl (by decide) (by omega) ?_
          refine z_iload_n (pc' := 29) X dX3_tiesAt_28 rfl 3 rfl rfl ?_
          refine z_icmp_ne (tgt := 35) (pc' := 32) X dX3_tiesAt_29 (by decide) rfl (by omega) (fun h29 => ?_) (fun h29 => ?_)
          · refine z_iinc (pc' := 38) (lv' := [(3, .int (jI (k + 1))), (2, .int (jI n_)), (0, .ref (q 36)), (1, .int (jI s_))]) X dX3_tiesAt_35 rfl 0 rfl (by decide) rfl ?_
            refine z_goto (tgt := 4) X dX3_tiesAt_38 (by decide) ?_
            exact ih4 (k + 1) n_  (⟨by omega, by rw [smI_succ _ h1.1, ← h2]; first | (rw [if_pos h19]; done) | (rw [if_neg h19, if_pos h29]; done) | (rw [if_neg h19, if_neg h29, Int.add_zero]; done), by omega⟩) (by omega)
          · refine z_iinc (pc' := 35) (lv' := [(2, .int (jI (n_ + 1))), (3, .int (jI k)), (0, .ref (q 36)), (1, .int (jI s_))]) X dX3_tiesAt_32 rfl 1 rfl (by decide) rfl ?_
            refine z_iinc (pc' := 38) (lv' := [(3, .int (jI (k + 1))), (2, .int (jI (n_ + 1))), (0, .ref (q 36)), (1, .int (jI s_))]) X dX3_tiesAt_35 rfl 1 rfl (by decide) rfl ?_
            refine z_goto (tgt := 4) X dX3_tiesAt_38 (by decide) ?_
            exact ih4 (k + 1) (n_ + 1)  (⟨by omega, by rw [smI_succ _ h1.1, ← h2]; first | (rw [if_pos h19]; done) | (rw [if_neg h19, if_pos h29]; done) | (rw [if_neg h19, if_neg h29, Int.add_zero]; done), by omega⟩) (by omega)
  exact lp4 _ 0 0  (⟨by omega, rfl, by omega⟩) (Nat.lt_succ_self _)
set_option maxHeartbeats 4000000 in
set_option maxRecDepth 100000 in
theorem kX3_otherEnd (l : Launch) (D : va_G) (E : Nat → Nat) (q : Nat → Nat) (σ : St) (k s_ : Int) (hwf : WfC σ) (hr : (0 ≤ k ∧ k < σ 4 0) ∧ (-2147483648 ≤ s_ ∧ s_ < 2147483648)) : CtI l D E yX3_otherEnd wsX3_otherEnd ({ frames := 0, cells := 0, slots := 0, locals := 0 } : Room) [.ref (q 36), .int (jI k), .int (jI s_)] (CW E q σ) (CW E q) (fun (rv : Int) (uu : St) => σ = uu ∧ rv = (if σ 5 k = s_ then σ 7 k else if σ 7 k = s_ then σ 5 k else -9)) := by
  refine mk_I (cc := cX3_otherEnd) (maxL := 3) (ret := some .int) (by decide) rfl (Nat.le_of_ble_eq_true rfl) ?_
  intro p e s m args below meth c A X hret
  have hin3 : ∀ x ∈ u_ws RX3 TX3 9, x ∈ wsX3_otherEnd := fun _ h => List.mem_cons_of_mem _ (List.mem_append_right _ h)
  refine z_lv (lv' := [(0, .ref (q 36)), (1, .int (jI k)), (2, .int (jI s_))]) [0, 1, 2] rfl ?_
  obtain ⟨n1, n0, n4, n16⟩ := hwf.n
  have ht := hwf.tie hr.1.1 hr.1.2
  refine z_aload_n (pc' := 1) X dX3_otherEnd_0 rfl 0 rfl rfl ?_
  refine z_get (pc' := 4) (C := RX3) (ref := "PivotBeats$Piece") (T := TX3) (N := 9) (v := .ref (q 5)) X dX3_otherEnd_1 rfl hin3 1 rfl rfl 4 (by decide) (by decide +kernel) rfl rfl ?_
  refine z_iload_n (pc' := 5) X dX3_otherEnd_4 rfl 1 rfl rfl ?_
  refine z_iald (pc' := 6) (f := σ 5) (n := 12) X dX3_otherEnd_5 rfl 8 rfl (by decide) (by omega) ?_
  refine z_iload_n (pc' := 7) X dX3_otherEnd_6 rfl 2 rfl rfl ?_
  refine z_icmp_ne (tgt := 17) (pc' := 10) X dX3_otherEnd_7 (by decide) rfl (by omega) (fun h7 => ?_) (fun h7 => ?_)
  · refine z_aload_n (pc' := 18) X dX3_otherEnd_17 rfl 0 rfl rfl ?_
    refine z_get (pc' := 21) (C := RX3) (ref := "PivotBeats$Piece") (T := TX3) (N := 9) (v := .ref (q 7)) X dX3_otherEnd_18 rfl hin3 1 rfl rfl 6 (by decide) (by decide +kernel) rfl rfl ?_
    refine z_iload_n (pc' := 22) X dX3_otherEnd_21 rfl 1 rfl rfl ?_
    refine z_iald (pc' := 23) (f := σ 7) (n := 12) X dX3_otherEnd_22 rfl 10 rfl (by decide) (by omega) ?_
    refine z_iload_n (pc' := 24) X dX3_otherEnd_23 rfl 2 rfl rfl ?_
    refine z_icmp_ne (tgt := 36) (pc' := 27) X dX3_otherEnd_24 (by decide) rfl (by omega) (fun h24 => ?_) (fun h24 => ?_)
    · refine z_bipush (pc' := 38) X dX3_otherEnd_36 rfl rfl ?_
      exact z_iret (post := (fun (rv : Int) (uu : St) => σ = uu ∧ rv = (if σ 5 k = s_ then σ 7 k else if σ 7 k = s_ then σ 5 k else -9))) X dX3_otherEnd_38 hret σ (⟨rfl, by first | (rw [if_pos h7]; done) | (rw [if_neg h7, if_pos h24]; done) | (rw [if_neg h7, if_neg h24]; done)⟩)
    · refine z_aload_n (pc' := 28) X dX3_otherEnd_27 rfl 0 rfl rfl ?_
      refine z_get (pc' := 31) (C := RX3) (ref := "PivotBeats$Piece") (T := TX3) (N := 9) (v := .ref (q 5)) X dX3_otherEnd_28 rfl hin3 1 rfl rfl 4 (by decide) (by decide +kernel) rfl rfl ?_
      refine z_iload_n (pc' := 32) X dX3_otherEnd_31 rfl 1 rfl rfl ?_
      refine z_iald (pc' := 33) (f := σ 5) (n := 12) X dX3_otherEnd_32 rfl 8 rfl (by decide) (by omega) ?_
      refine z_goto (tgt := 38) X dX3_otherEnd_33 (by decide) ?_
      exact z_iret (post := (fun (rv : Int) (uu : St) => σ = uu ∧ rv = (if σ 5 k = s_ then σ 7 k else if σ 7 k = s_ then σ 5 k else -9))) X dX3_otherEnd_38 hret σ (⟨rfl, by first | (rw [if_pos h7]; done) | (rw [if_neg h7, if_pos h24]; done) | (rw [if_neg h7, if_neg h24]; done)⟩)
  · refine z_aload_n (pc' := 11) X dX3_otherEnd_10 rfl 0 rfl rfl ?_
    refine z_get (pc' := 14) (C := RX3) (ref := "PivotBeats$Piece") (T := TX3) (N := 9) (v := .ref (q 7)) X dX3_otherEnd_11 rfl hin3 1 rfl rfl 6 (by decide) (by decide +kernel) rfl rfl ?_
    refine z_iload_n (pc' := 15) X dX3_otherEnd_14 rfl 1 rfl rfl ?_
    refine z_iald (pc' := 16) (f := σ 7) (n := 12) X dX3_otherEnd_15 rfl 10 rfl (by decide) (by omega) ?_
    exact z_iret (post := (fun (rv : Int) (uu : St) => σ = uu ∧ rv = (if σ 5 k = s_ then σ 7 k else if σ 7 k = s_ then σ 5 k else -9))) X dX3_otherEnd_16 hret σ (⟨rfl, by first | (rw [if_pos h7]; done) | (rw [if_neg h7, if_pos h24]; done) | (rw [if_neg h7, if_neg h24]; done)⟩)
set_option maxHeartbeats 4000000 in
set_option maxRecDepth 100000 in
theorem kX3_twosOfTie (l : Launch) (D : va_G) (E : Nat → Nat) (q : Nat → Nat) (σ : St) (k : Int) (hwf : WfC σ) (hr : 0 ≤ k ∧ k < σ 4 0) : CtI l D E yX3_twosOfTie wsX3_twosOfTie ({ frames := 0, cells := 0, slots := 0, locals := 0 } : Room) [.ref (q 36), .int (jI k)] (CW E q σ) (CW E q) (fun (rv : Int) (uu : St) => σ = uu ∧ rv = tw (σ 8 k) - tw (σ 6 k)) := by
  refine mk_I (cc := cX3_twosOfTie) (maxL := 2) (ret := some .int) (by decide) rfl (Nat.le_of_ble_eq_true rfl) ?_
  intro p e s m args below meth c A X hret
  have hin3 : ∀ x ∈ u_ws RX3 TX3 9, x ∈ wsX3_twosOfTie := fun _ h => List.mem_cons_of_mem _ (List.mem_append_right _ h)
  refine z_lv (lv' := [(0, .ref (q 36)), (1, .int (jI k))]) [0, 1] rfl ?_
  obtain ⟨n1, n0, n4, n16⟩ := hwf.n
  have ht := hwf.tie hr.1 hr.2
  refine z_getsN (pc' := 3) (ref := "PivotBeats") (host := "PivotBeats") X dX3_twosOfTie_0 rfl X.2.2.2.1.1.2.1 (X.2.2.2.1.2.2.1 ("PivotBeats$Piece", 40, "TWOS") (by decide +kernel)) rfl ?_
  refine z_aload_n (pc' := 4) X dX3_twosOfTie_3 rfl 0 rfl rfl ?_
  refine z_get (pc' := 7) (C := RX3) (ref := "PivotBeats$Piece") (T := TX3) (N := 9) (v := .ref (q 8)) X dX3_twosOfTie_4 rfl hin3 1 rfl rfl 7 (by decide) (by decide +kernel) rfl rfl ?_
  refine z_iload_n (pc' := 8) X dX3_twosOfTie_7 rfl 1 rfl rfl ?_
  refine z_iald (pc' := 9) (f := σ 8) (n := 12) X dX3_twosOfTie_8 rfl 11 rfl (by decide) (by omega) ?_
  refine z_ti (pc' := 10) (f := tw) X dX3_twosOfTie_9 rfl X.2.2.2.1.2.1.2.1 (by decide) (by omega) ?_
  refine z_getsN (pc' := 13) (ref := "PivotBeats") (host := "PivotBeats") X dX3_twosOfTie_10 rfl X.2.2.2.1.1.2.1 (X.2.2.2.1.2.2.1 ("PivotBeats$Piece", 40, "TWOS") (by decide +kernel)) rfl ?_
  refine z_aload_n (pc' := 14) X dX3_twosOfTie_13 rfl 0 rfl rfl ?_
  refine z_get (pc' := 17) (C := RX3) (ref := "PivotBeats$Piece") (T := TX3) (N := 9) (v := .ref (q 6)) X dX3_twosOfTie_14 rfl hin3 1 rfl rfl 5 (by decide) (by decide +kernel) rfl rfl ?_
  refine z_iload_n (pc' := 18) X dX3_twosOfTie_17 rfl 1 rfl rfl ?_
  refine z_iald (pc' := 19) (f := σ 6) (n := 12) X dX3_twosOfTie_18 rfl 9 rfl (by decide) (by omega) ?_
  refine z_ti (pc' := 20) (f := tw) X dX3_twosOfTie_19 rfl X.2.2.2.1.2.1.2.1 (by decide) (by omega) ?_
  refine z_isub (pc' := 21) X dX3_twosOfTie_20 rfl ?_
  exact z_iret (post := (fun (rv : Int) (uu : St) => σ = uu ∧ rv = tw (σ 8 k) - tw (σ 6 k))) X dX3_twosOfTie_21 hret σ (⟨rfl, by first | rfl | omega⟩)
set_option maxHeartbeats 4000000 in
set_option maxRecDepth 100000 in
theorem kX3_threesOfTie (l : Launch) (D : va_G) (E : Nat → Nat) (q : Nat → Nat) (σ : St) (k : Int) (hwf : WfC σ) (hr : 0 ≤ k ∧ k < σ 4 0) : CtI l D E yX3_threesOfTie wsX3_threesOfTie ({ frames := 0, cells := 0, slots := 0, locals := 0 } : Room) [.ref (q 36), .int (jI k)] (CW E q σ) (CW E q) (fun (rv : Int) (uu : St) => σ = uu ∧ rv = th (σ 8 k) - th (σ 6 k)) := by
  refine mk_I (cc := cX3_threesOfTie) (maxL := 2) (ret := some .int) (by decide) rfl (Nat.le_of_ble_eq_true rfl) ?_
  intro p e s m args below meth c A X hret
  have hin3 : ∀ x ∈ u_ws RX3 TX3 9, x ∈ wsX3_threesOfTie := fun _ h => List.mem_cons_of_mem _ (List.mem_append_right _ h)
  refine z_lv (lv' := [(0, .ref (q 36)), (1, .int (jI k))]) [0, 1] rfl ?_
  obtain ⟨n1, n0, n4, n16⟩ := hwf.n
  have ht := hwf.tie hr.1 hr.2
  refine z_getsN (pc' := 3) (ref := "PivotBeats") (host := "PivotBeats") X dX3_threesOfTie_0 rfl X.2.2.2.1.1.2.2 (X.2.2.2.1.2.2.1 ("PivotBeats$Piece", 43, "THREES") (by decide +kernel)) rfl ?_
  refine z_aload_n (pc' := 4) X dX3_threesOfTie_3 rfl 0 rfl rfl ?_
  refine z_get (pc' := 7) (C := RX3) (ref := "PivotBeats$Piece") (T := TX3) (N := 9) (v := .ref (q 8)) X dX3_threesOfTie_4 rfl hin3 1 rfl rfl 7 (by decide) (by decide +kernel) rfl rfl ?_
  refine z_iload_n (pc' := 8) X dX3_threesOfTie_7 rfl 1 rfl rfl ?_
  refine z_iald (pc' := 9) (f := σ 8) (n := 12) X dX3_threesOfTie_8 rfl 11 rfl (by decide) (by omega) ?_
  refine z_ti (pc' := 10) (f := th) X dX3_threesOfTie_9 rfl X.2.2.2.1.2.1.2.2 (by decide) (by omega) ?_
  refine z_getsN (pc' := 13) (ref := "PivotBeats") (host := "PivotBeats") X dX3_threesOfTie_10 rfl X.2.2.2.1.1.2.2 (X.2.2.2.1.2.2.1 ("PivotBeats$Piece", 43, "THREES") (by decide +kernel)) rfl ?_
  refine z_aload_n (pc' := 14) X dX3_threesOfTie_13 rfl 0 rfl rfl ?_
  refine z_get (pc' := 17) (C := RX3) (ref := "PivotBeats$Piece") (T := TX3) (N := 9) (v := .ref (q 6)) X dX3_threesOfTie_14 rfl hin3 1 rfl rfl 5 (by decide) (by decide +kernel) rfl rfl ?_
  refine z_iload_n (pc' := 18) X dX3_threesOfTie_17 rfl 1 rfl rfl ?_
  refine z_iald (pc' := 19) (f := σ 6) (n := 12) X dX3_threesOfTie_18 rfl 9 rfl (by decide) (by omega) ?_
  refine z_ti (pc' := 20) (f := th) X dX3_threesOfTie_19 rfl X.2.2.2.1.2.1.2.2 (by decide) (by omega) ?_
  refine z_isub (pc' := 21) X dX3_threesOfTie_20 rfl ?_
  exact z_iret (post := (fun (rv : Int) (uu : St) => σ = uu ∧ rv = th (σ 8 k) - th (σ 6 k))) X dX3_threesOfTie_21 hret σ (⟨rfl, by first | rfl | omega⟩)
set_option maxHeartbeats 4000000 in
set_option maxRecDepth 100000 in
theorem kX3_driftBy (l : Launch) (D : va_G) (E : Nat → Nat) (q : Nat → Nat) (σ : St) (k mf mt : Int) (hwf : WfC σ) (hr : (0 ≤ k ∧ k < σ 4 0) ∧ (0 ≤ mf ∧ mf ≤ 400) ∧ (0 ≤ mt ∧ mt ≤ 400)) : CtI l D E yX3_driftBy wsX3_driftBy ({ frames := 1, cells := 0, slots := 0, locals := 40 } : Room) [.ref (q 36), .int (jI k), .int (jI mf), .int (jI mt)] (CW E q σ) (CW E q) (fun (rv : Int) (uu : St) => σ = uu ∧ rv = ((mt * tk (σ 6 k) - mf * tk (σ 8 k)).natAbs : Int)) := by
  refine mk_I (cc := cX3_driftBy) (maxL := 4) (ret := some .int) (by decide) rfl (Nat.le_of_ble_eq_true rfl) ?_
  intro p e s m args below meth c A X hret
  have hin3 : ∀ x ∈ u_ws RX3 TX3 9, x ∈ wsX3_driftBy := fun _ h => List.mem_cons_of_mem _ (List.mem_append_right _ h)
  refine z_lv (lv' := [(0, .ref (q 36)), (1, .int (jI k)), (2, .int (jI mf)), (3, .int (jI mt))]) [0, 1, 2, 3] rfl ?_
  obtain ⟨n1, n0, n4, n16⟩ := hwf.n
  have ht := hwf.tie hr.1.1 hr.1.2
  have t1 := tk_rng ht.2.1
  have t2 := tk_rng ht.2.2.2.1
  have m1 := mul_bd (a := mt) (b := tk (σ 6 k)) (A := 400) (B := 144) hr.2.2 (by omega)
  have m2 := mul_bd (a := mf) (b := tk (σ 8 k)) (A := 400) (B := 144) hr.2.1 (by omega)
  refine z_iload_n (pc' := 1) X dX3_driftBy_0 rfl 3 rfl rfl ?_
  refine z_getsN (pc' := 4) (ref := "PivotBeats") (host := "PivotBeats") X dX3_driftBy_1 rfl X.2.2.2.1.1.1 (X.2.2.2.1.2.2.1 ("PivotBeats$Piece", 46, "TICKS") (by decide +kernel)) rfl ?_
  refine z_aload_n (pc' := 5) X dX3_driftBy_4 rfl 0 rfl rfl ?_
  refine z_get (pc' := 8) (C := RX3) (ref := "PivotBeats$Piece") (T := TX3) (N := 9) (v := .ref (q 6)) X dX3_driftBy_5 rfl hin3 1 rfl rfl 5 (by decide) (by decide +kernel) rfl rfl ?_
  refine z_iload_n (pc' := 9) X dX3_driftBy_8 rfl 1 rfl rfl ?_
  refine z_iald (pc' := 10) (f := σ 6) (n := 12) X dX3_driftBy_9 rfl 9 rfl (by decide) (by omega) ?_
  refine z_ti (pc' := 11) (f := tk) X dX3_driftBy_10 rfl X.2.2.2.1.2.1.1 (by decide) (by omega) ?_
  refine z_imul (pc' := 12) X dX3_driftBy_11 rfl ?_
  refine z_iload_n (pc' := 13) X dX3_driftBy_12 rfl 2 rfl rfl ?_
  refine z_getsN (pc' := 16) (ref := "PivotBeats") (host := "PivotBeats") X dX3_driftBy_13 rfl X.2.2.2.1.1.1 (X.2.2.2.1.2.2.1 ("PivotBeats$Piece", 46, "TICKS") (by decide +kernel)) rfl ?_
  refine z_aload_n (pc' := 17) X dX3_driftBy_16 rfl 0 rfl rfl ?_
  refine z_get (pc' := 20) (C := RX3) (ref := "PivotBeats$Piece") (T := TX3) (N := 9) (v := .ref (q 8)) X dX3_driftBy_17 rfl hin3 1 rfl rfl 7 (by decide) (by decide +kernel) rfl rfl ?_
  refine z_iload_n (pc' := 21) X dX3_driftBy_20 rfl 1 rfl rfl ?_
  refine z_iald (pc' := 22) (f := σ 8) (n := 12) X dX3_driftBy_21 rfl 11 rfl (by decide) (by omega) ?_
  refine z_ti (pc' := 23) (f := tk) X dX3_driftBy_22 rfl X.2.2.2.1.2.1.1 (by decide) (by omega) ?_
  refine z_imul (pc' := 24) X dX3_driftBy_23 rfl ?_
  refine z_isub (pc' := 25) X dX3_driftBy_24 rfl ?_
  refine z_abs (pc' := 28) X dX3_driftBy_25 rfl (by decide +kernel) (by decide +kernel) (by decide +kernel) (by decide +kernel) ⟨Nat.le_of_ble_eq_true rfl, Nat.le_of_ble_eq_true rfl⟩ (by omega) ?_
  exact z_iret (post := (fun (rv : Int) (uu : St) => σ = uu ∧ rv = ((mt * tk (σ 6 k) - mf * tk (σ 8 k)).natAbs : Int))) X dX3_driftBy_28 hret σ (⟨rfl, by first | rfl | omega⟩)
set_option maxHeartbeats 4000000 in
set_option maxRecDepth 100000 in
theorem kX1_keep (l : Launch) (D : va_G) (E : Nat → Nat) (q : Nat → Nat) (σ : St) (k : Int) (hwf : WfC σ) (hk : 0 ≤ k ∧ k < σ 4 0) (hJ : ∀ s, 0 ≤ s → s < 7 → JQ (σ 5) (σ 6) (σ 7) (σ 8) σ k.toNat s) (hne : ¬ σ 10 (σ 5 k) = σ 10 (σ 7 k)) : CtV l D E yX1_keep wsX1_keep ({ frames := 1, cells := 0, slots := 0, locals := 40 } : Room) [.ref (q 37), .ref (q 36), .int (jI k)] (CW E q σ) (CW E q) (fun (uu : St) => (∀ F, (F < 10 ∨ 13 < F) → uu F = σ F) ∧ ∀ s, 0 ≤ s → s < 7 → JQ (σ 5) (σ 6) (σ 7) (σ 8) uu (k.toNat + 1) s) := by
  refine mk_V (cc := cX1_keep) (maxL := 12) (ret := none) (by decide) rfl (Nat.le_of_ble_eq_true rfl) ?_
  intro p e s m args below meth c A X hret
  have hin3 : ∀ x ∈ u_ws RX3 TX3 9, x ∈ wsX1_keep := fun _ h => List.mem_cons_of_mem _ (List.mem_append_left _ (List.mem_append_right _ h))
  have hin1 : ∀ x ∈ u_ws RX1 TX1 5, x ∈ wsX1_keep := fun _ h => List.mem_cons_of_mem _ (List.mem_append_right _ h)
  refine z_lv (lv' := [(0, .ref (q 37)), (1, .ref (q 36)), (2, .int (jI k))]) [0, 1, 2] rfl ?_
  obtain ⟨n1, n0, n4, n16⟩ := hwf.n
  have ht := hwf.tie hk.1 hk.2
  have kN : ((k.toNat : Nat) : Int) = k := by omega
  have ja := hJ (σ 5 k) (by omega) (by omega)
  have jb := hJ (σ 7 k) (by omega) (by omega)
  have ra := ja.rng hwf (by omega) (by omega)
  have rb := jb.rng hwf (by omega) (by omega)
  have rx := iXor_lt (n := 12) (show σ 13 (σ 5 k) < 2 ^ 12 by omega) (show σ 13 (σ 7 k) < 2 ^ 12 by omega)
  have rx0 := iXor_nn (σ 13 (σ 5 k)) (σ 13 (σ 7 k))
  have sh : iShl 1 k = 2 ^ k.toNat := by rw [← kN, iShl_1, Int.toNat_natCast]
  have shb := pow_le2 (show k.toNat ≤ 11 by omega)
  have ry := iXor_lt (n := 12) rx (show iShl 1 k < 2 ^ 12 by rw [sh]; omega)
  have ry0 := iXor_nn (iXor (σ 13 (σ 5 k)) (σ 13 (σ 7 k))) (iShl 1 k)
  rw [← sh] at shb
  refine z_aload_n (pc' := 1) X dX1_keep_0 rfl 1 rfl rfl ?_
  refine z_get (pc' := 4) (C := RX3) (ref := "PivotBeats$Piece") (T := TX3) (N := 9) (v := .ref (q 5)) X dX1_keep_1 rfl hin3 1 rfl rfl 4 (by decide) (by decide +kernel) rfl rfl ?_
  refine z_iload_n (pc' := 5) X dX1_keep_4 rfl 2 rfl rfl ?_
  refine z_iald (pc' := 6) (f := σ 5) (n := 12) X dX1_keep_5 rfl 8 rfl (by decide) (by omega) ?_
  refine z_istore_n (pc' := 7) (lv' := [(3, .int (jI (σ 5 k))), (0, .ref (q 37)), (1, .ref (q 36)), (2, .int (jI k))]) X dX1_keep_6 rfl rfl (by decide) rfl ?_
  refine z_aload_n (pc' := 8) X dX1_keep_7 rfl 2 rfl rfl ?_
  refine z_get (pc' := 11) (C := RX3) (ref := "PivotBeats$Piece") (T := TX3) (N := 9) (v := .ref (q 7)) X dX1_keep_8 rfl hin3 1 rfl rfl 6 (by decide) (by decide +kernel) rfl rfl ?_
  refine z_iload_n (pc' := 12) X dX1_keep_11 rfl 3 rfl rfl ?_
  refine z_iald (pc' := 13) (f := σ 7) (n := 12) X dX1_keep_12 rfl 10 rfl (by decide) (by omega) ?_
  refine z_istore (pc' := 15) (lv' := [(4, .int (jI (σ 7 k))), (3, .int (jI (σ 5 k))), (0, .ref (q 37)), (1, .ref (q 36)), (2, .int (jI k))]) X dX1_keep_13 rfl (by decide) rfl ?_
  refine z_aload_n (pc' := 16) X dX1_keep_15 rfl 2 rfl rfl ?_
  refine z_get (pc' := 19) (C := RX1) (ref := "PivotBeats$Joins") (T := TX1) (N := 5) (v := .ref (q 10)) X dX1_keep_16 rfl hin1 2 rfl rfl 0 (by decide) (by decide +kernel) rfl rfl ?_
  refine z_iload_n (pc' := 20) X dX1_keep_19 rfl 1 rfl rfl ?_
  refine z_iald (pc' := 21) (f := σ 10) (n := 7) X dX1_keep_20 rfl 13 rfl (by decide) (by omega) ?_
  refine z_istore (pc' := 23) (lv' := [(5, .int (jI (σ 10 (σ 5 k)))), (4, .int (jI (σ 7 k))), (3, .int (jI (σ 5 k))), (0, .ref (q 37)), (1, .ref (q 36)), (2, .int (jI k))]) X dX1_keep_21 rfl (by decide) rfl ?_
  refine z_aload_n (pc' := 24) X dX1_keep_23 rfl 3 rfl rfl ?_
  refine z_get (pc' := 27) (C := RX1) (ref := "PivotBeats$Joins") (T := TX1) (N := 5) (v := .ref (q 10)) X dX1_keep_24 rfl hin1 2 rfl rfl 0 (by decide) (by decide +kernel) rfl rfl ?_
  refine z_iload (pc' := 29) X dX1_keep_27 rfl 1 rfl ?_
  refine z_iald (pc' := 30) (f := σ 10) (n := 7) X dX1_keep_29 rfl 13 rfl (by decide) (by omega) ?_
  refine z_istore (pc' := 32) (lv' := [(6, .int (jI (σ 10 (σ 7 k)))), (5, .int (jI (σ 10 (σ 5 k)))), (4, .int (jI (σ 7 k))), (3, .int (jI (σ 5 k))), (0, .ref (q 37)), (1, .ref (q 36)), (2, .int (jI k))]) X dX1_keep_30 rfl (by decide) rfl ?_
  refine z_iload (pc' := 34) X dX1_keep_32 rfl 1 rfl ?_
  refine z_iload (pc' := 36) X dX1_keep_34 rfl 0 rfl ?_
  refine z_min (pc' := 39) X dX1_keep_36 rfl (by decide +kernel) (by decide +kernel) (by decide +kernel) (by decide +kernel) ⟨Nat.le_of_ble_eq_true rfl, Nat.le_of_ble_eq_true rfl⟩ (by omega) ?_
  refine z_istore (pc' := 41) (lv' := [(7, .int (jI (min (σ 10 (σ 5 k)) (σ 10 (σ 7 k))))), (6, .int (jI (σ 10 (σ 7 k)))), (5, .int (jI (σ 10 (σ 5 k)))), (4, .int (jI (σ 7 k))), (3, .int (jI (σ 5 k))), (0, .ref (q 37)), (1, .ref (q 36)), (2, .int (jI k))]) X dX1_keep_39 rfl (by decide) rfl ?_
  refine z_aload_n (pc' := 42) X dX1_keep_41 rfl 5 rfl rfl ?_
  refine z_get (pc' := 45) (C := RX1) (ref := "PivotBeats$Joins") (T := TX1) (N := 5) (v := .ref (q 11)) X dX1_keep_42 rfl hin1 2 rfl rfl 1 (by decide) (by decide +kernel) rfl rfl ?_
  refine z_iload_n (pc' := 46) X dX1_keep_45 rfl 4 rfl rfl ?_
  refine z_iald (pc' := 47) (f := σ 11) (n := 7) X dX1_keep_46 rfl 14 rfl (by decide) (by omega) ?_
  refine z_aload_n (pc' := 48) X dX1_keep_47 rfl 6 rfl rfl ?_
  refine z_iload_n (pc' := 49) X dX1_keep_48 rfl 7 rfl rfl ?_
  refine z_callVI (pc' := 52) (S := St) (As := [.int (jI k)]) (rest := [.int (jI (σ 11 (σ 5 k)))]) X dX1_keep_49 rfl (kX3_twosOfTie l D E q σ k  (hwf) (hk)) (cwV 1 X.1.2.2.2.2 gX1_keep_X3_twosOfTie rfl rfl rfl (by decide +kernel) ⟨Nat.le_of_ble_eq_true rfl, Nat.le_of_ble_eq_true rfl⟩) 1 rfl rfl rfl rfl (Nat.le_of_ble_eq_true rfl) (fun r49 u49 hp49 => ?_)
  obtain ⟨rfl, hp49⟩ := hp49; replace hp49 := hp49.symm; subst hp49
  refine z_iadd (pc' := 53) X dX1_keep_52 rfl ?_
  refine z_aload_n (pc' := 54) X dX1_keep_53 rfl 5 rfl rfl ?_
  refine z_get (pc' := 57) (C := RX1) (ref := "PivotBeats$Joins") (T := TX1) (N := 5) (v := .ref (q 11)) X dX1_keep_54 rfl hin1 2 rfl rfl 1 (by decide) (by decide +kernel) rfl rfl ?_
  refine z_iload (pc' := 59) X dX1_keep_57 rfl 3 rfl ?_
  refine z_iald (pc' := 60) (f := σ 11) (n := 7) X dX1_keep_59 rfl 14 rfl (by decide) (by omega) ?_
  refine z_isub (pc' := 61) X dX1_keep_60 rfl ?_
  refine z_istore (pc' := 63) (lv' := [(8, .int (jI (((σ 11 (σ 5 k)) + (tw (σ 8 k) - tw (σ 6 k))) - (σ 11 (σ 7 k))))), (7, .int (jI (min (σ 10 (σ 5 k)) (σ 10 (σ 7 k))))), (6, .int (jI (σ 10 (σ 7 k)))), (5, .int (jI (σ 10 (σ 5 k)))), (4, .int (jI (σ 7 k))), (3, .int (jI (σ 5 k))), (0, .ref (q 37)), (1, .ref (q 36)), (2, .int (jI k))]) X dX1_keep_61 rfl (by decide) rfl ?_
  refine z_aload_n (pc' := 64) X dX1_keep_63 rfl 6 rfl rfl ?_
  refine z_get (pc' := 67) (C := RX1) (ref := "PivotBeats$Joins") (T := TX1) (N := 5) (v := .ref (q 12)) X dX1_keep_64 rfl hin1 2 rfl rfl 2 (by decide) (by decide +kernel) rfl rfl ?_
  refine z_iload_n (pc' := 68) X dX1_keep_67 rfl 5 rfl rfl ?_
  refine z_iald (pc' := 69) (f := σ 12) (n := 7) X dX1_keep_68 rfl 15 rfl (by decide) (by omega) ?_
  refine z_aload_n (pc' := 70) X dX1_keep_69 rfl 7 rfl rfl ?_
  refine z_iload_n (pc' := 71) X dX1_keep_70 rfl 8 rfl rfl ?_
  refine z_callVI (pc' := 74) (S := St) (As := [.int (jI k)]) (rest := [.int (jI (σ 12 (σ 5 k)))]) X dX1_keep_71 rfl (kX3_threesOfTie l D E q σ k  (hwf) (hk)) (cwV 1 X.1.2.2.2.2 gX1_keep_X3_threesOfTie rfl rfl rfl (by decide +kernel) ⟨Nat.le_of_ble_eq_true rfl, Nat.le_of_ble_eq_true rfl⟩) 1 rfl rfl rfl rfl (Nat.le_of_ble_eq_true rfl) (fun r71 u71 hp71 => ?_)
  obtain ⟨rfl, hp71⟩ := hp71; replace hp71 := hp71.symm; subst hp71
  refine z_iadd (pc' := 75) X dX1_keep_74 rfl ?_
  refine z_aload_n (pc' := 76) X dX1_keep_75 rfl 6 rfl rfl ?_
  refine z_get (pc' := 79) (C := RX1) (ref := "PivotBeats$Joins") (T := TX1) (N := 5) (v := .ref (q 12)) X dX1_keep_76 rfl hin1 2 rfl rfl 2 (by decide) (by decide +kernel) rfl rfl ?_
  refine z_iload (pc' := 81) X dX1_keep_79 rfl 4 rfl ?_
  refine z_iald (pc' := 82) (f := σ 12) (n := 7) X dX1_keep_81 rfl 15 rfl (by decide) (by omega) ?_
  refine z_isub (pc' := 83) X dX1_keep_82 rfl ?_
  refine z_istore (pc' := 85) (lv' := [(9, .int (jI (((σ 12 (σ 5 k)) + (th (σ 8 k) - th (σ 6 k))) - (σ 12 (σ 7 k))))), (8, .int (jI (((σ 11 (σ 5 k)) + (tw (σ 8 k) - tw (σ 6 k))) - (σ 11 (σ 7 k))))), (7, .int (jI (min (σ 10 (σ 5 k)) (σ 10 (σ 7 k))))), (6, .int (jI (σ 10 (σ 7 k)))), (5, .int (jI (σ 10 (σ 5 k)))), (4, .int (jI (σ 7 k))), (3, .int (jI (σ 5 k))), (0, .ref (q 37)), (1, .ref (q 36)), (2, .int (jI k))]) X dX1_keep_83 rfl (by decide) rfl ?_
  refine z_aload_n (pc' := 86) X dX1_keep_85 rfl 7 rfl rfl ?_
  refine z_get (pc' := 89) (C := RX1) (ref := "PivotBeats$Joins") (T := TX1) (N := 5) (v := .ref (q 13)) X dX1_keep_86 rfl hin1 2 rfl rfl 3 (by decide) (by decide +kernel) rfl rfl ?_
  refine z_iload_n (pc' := 90) X dX1_keep_89 rfl 6 rfl rfl ?_
  refine z_iald (pc' := 91) (f := σ 13) (n := 7) X dX1_keep_90 rfl 16 rfl (by decide) (by omega) ?_
  refine z_aload_n (pc' := 92) X dX1_keep_91 rfl 7 rfl rfl ?_
  refine z_get (pc' := 95) (C := RX1) (ref := "PivotBeats$Joins") (T := TX1) (N := 5) (v := .ref (q 13)) X dX1_keep_92 rfl hin1 2 rfl rfl 3 (by decide) (by decide +kernel) rfl rfl ?_
  refine z_iload (pc' := 97) X dX1_keep_95 rfl 5 rfl ?_
  refine z_iald (pc' := 98) (f := σ 13) (n := 7) X dX1_keep_97 rfl 16 rfl (by decide) (by omega) ?_
  refine z_ixor (pc' := 99) X dX1_keep_98 rfl (by omega) ?_
  refine z_iconst (pc' := 100) X dX1_keep_99 rfl ?_
  refine z_iload_n (pc' := 101) X dX1_keep_100 rfl 9 rfl rfl ?_
  refine z_ishl (pc' := 102) X dX1_keep_101 rfl (by omega) ?_
  refine z_ixor (pc' := 103) X dX1_keep_102 rfl (by omega) ?_
  refine z_istore (pc' := 105) (lv' := [(10, .int (jI (iXor (iXor (σ 13 (σ 5 k)) (σ 13 (σ 7 k))) (iShl 1 k)))), (9, .int (jI (((σ 12 (σ 5 k)) + (th (σ 8 k) - th (σ 6 k))) - (σ 12 (σ 7 k))))), (8, .int (jI (((σ 11 (σ 5 k)) + (tw (σ 8 k) - tw (σ 6 k))) - (σ 11 (σ 7 k))))), (7, .int (jI (min (σ 10 (σ 5 k)) (σ 10 (σ 7 k))))), (6, .int (jI (σ 10 (σ 7 k)))), (5, .int (jI (σ 10 (σ 5 k)))), (4, .int (jI (σ 7 k))), (3, .int (jI (σ 5 k))), (0, .ref (q 37)), (1, .ref (q 36)), (2, .int (jI k))]) X dX1_keep_103 rfl (by decide) rfl ?_
  refine z_iconst (pc' := 106) X dX1_keep_105 rfl ?_
  refine z_istore (pc' := 108) (lv' := [(11, .int (jI 0)), (10, .int (jI (iXor (iXor (σ 13 (σ 5 k)) (σ 13 (σ 7 k))) (iShl 1 k)))), (9, .int (jI (((σ 12 (σ 5 k)) + (th (σ 8 k) - th (σ 6 k))) - (σ 12 (σ 7 k))))), (8, .int (jI (((σ 11 (σ 5 k)) + (tw (σ 8 k) - tw (σ 6 k))) - (σ 11 (σ 7 k))))), (7, .int (jI (min (σ 10 (σ 5 k)) (σ 10 (σ 7 k))))), (6, .int (jI (σ 10 (σ 7 k)))), (5, .int (jI (σ 10 (σ 5 k)))), (4, .int (jI (σ 7 k))), (3, .int (jI (σ 5 k))), (0, .ref (q 37)), (1, .ref (q 36)), (2, .int (jI k))]) X dX1_keep_106 rfl (by decide) rfl ?_
  have lp108 : ∀ (nF : Nat) (x : Int) (u1 : St) , ((0 ≤ x ∧ x ≤ 7) ∧ (∀ F, (F < 10 ∨ 13 < F) → u1 F = σ F) ∧ ∀ s, 0 ≤ s → s < 7 → (s < x → JQ (σ 5) (σ 6) (σ 7) (σ 8) u1 (k.toNat + 1) s) ∧ (x ≤ s → JQ (σ 5) (σ 6) (σ 7) (σ 8) u1 k.toNat s)) → ((7 - x).toNat : Nat) < nF → J p l e (headSpec wsX1_keep ({ frames := 1, cells := 0, slots := 0, locals := 40 } : Room)).room s m args below meth c D A 12 (MQ below (va_Qv (fun (uu : St) => (∀ F, (F < 10 ∨ 13 < F) → uu F = σ F) ∧ ∀ s, 0 ≤ s → s < 7 → JQ (σ 5) (σ 6) (σ 7) (σ 8) uu (k.toNat + 1) s) (Bw D (CW E q) A) A) args s 0 0 A) 108 [(11, .int (jI x)), (10, .int (jI (iXor (iXor (σ 13 (σ 5 k)) (σ 13 (σ 7 k))) (iShl 1 k)))), (9, .int (jI (((σ 12 (σ 5 k)) + (th (σ 8 k) - th (σ 6 k))) - (σ 12 (σ 7 k))))), (8, .int (jI (((σ 11 (σ 5 k)) + (tw (σ 8 k) - tw (σ 6 k))) - (σ 11 (σ 7 k))))), (7, .int (jI (min (σ 10 (σ 5 k)) (σ 10 (σ 7 k))))), (6, .int (jI (σ 10 (σ 7 k)))), (5, .int (jI (σ 10 (σ 5 k)))), (4, .int (jI (σ 7 k))), (3, .int (jI (σ 5 k))), (0, .ref (q 37)), (1, .ref (q 36)), (2, .int (jI k))] [] (CW E q u1) := by
    intro nF
    induction nF with
    | zero => intro x u1  hI hn; exact absurd hn (Nat.not_lt_zero _)
    | succ nF ih108 =>
      intro x u1  hI hn
      obtain ⟨h1, h2, h3⟩ := hI
      refine z_iload (pc' := 110) X dX1_keep_108 rfl 0 rfl ?_
      refine z_bipush (pc' := 112) X dX1_keep_110 rfl rfl ?_
      refine z_icmp_ge (tgt := 202) (pc' := 115) X dX1_keep_112 (by decide) rfl (by omega) (fun h112 => ?_) (fun h112 => ?_)
      · exact z_vret (post := (fun (uu : St) => (∀ F, (F < 10 ∨ 13 < F) → uu F = σ F) ∧ ∀ s, 0 ≤ s → s < 7 → JQ (σ 5) (σ 6) (σ 7) (σ 8) uu (k.toNat + 1) s)) X dX1_keep_202 hret u1 (⟨h2, fun s s0 s1 => (h3 s s0 s1).1 (by omega)⟩)
      · have jx := (h3 x (by omega) (by omega)).2 (by omega)
        have rxx := jx.rng hwf (by omega) (by omega)
        refine z_aload_n (pc' := 116) X dX1_keep_115 rfl 9 rfl rfl ?_
        refine z_get (pc' := 119) (C := RX1) (ref := "PivotBeats$Joins") (T := TX1) (N := 5) (v := .ref (q 10)) X dX1_keep_116 rfl hin1 2 rfl rfl 0 (by decide) (by decide +kernel) rfl rfl ?_
        refine z_iload (pc' := 121) X dX1_keep_119 rfl 0 rfl ?_
        refine z_iald (pc' := 122) (f := u1 10) (n := 7) X dX1_keep_121 rfl 13 rfl (by decide) (by omega) ?_
        refine z_iload (pc' := 124) X dX1_keep_122 rfl 5 rfl ?_
        refine z_icmp_ne (tgt := 175) (pc' := 127) X dX1_keep_124 (by decide) rfl (by omega) (fun h124 => ?_) (fun h124 => ?_)
        · refine z_aload_n (pc' := 176) X dX1_keep_175 rfl 9 rfl rfl ?_
          refine z_get (pc' := 179) (C := RX1) (ref := "PivotBeats$Joins") (T := TX1) (N := 5) (v := .ref (q 10)) X dX1_keep_176 rfl hin1 2 rfl rfl 0 (by decide) (by decide +kernel) rfl rfl ?_
          refine z_iload (pc' := 181) X dX1_keep_179 rfl 0 rfl ?_
          refine z_iald (pc' := 182) (f := u1 10) (n := 7) X dX1_keep_181 rfl 13 rfl (by decide) (by omega) ?_
          refine z_iload (pc' := 184) X dX1_keep_182 rfl 6 rfl ?_
          refine z_icmp_ne (tgt := 196) (pc' := 187) X dX1_keep_184 (by decide) rfl (by omega) (fun h184 => ?_) (fun h184 => ?_)
          · refine z_iinc (pc' := 199) (lv' := [(11, .int (jI (x + 1))), (10, .int (jI (iXor (iXor (σ 13 (σ 5 k)) (σ 13 (σ 7 k))) (iShl 1 k)))), (9, .int (jI (((σ 12 (σ 5 k)) + (th (σ 8 k) - th (σ 6 k))) - (σ 12 (σ 7 k))))), (8, .int (jI (((σ 11 (σ 5 k)) + (tw (σ 8 k) - tw (σ 6 k))) - (σ 11 (σ 7 k))))), (7, .int (jI (min (σ 10 (σ 5 k)) (σ 10 (σ 7 k))))), (6, .int (jI (σ 10 (σ 7 k)))), (5, .int (jI (σ 10 (σ 5 k)))), (4, .int (jI (σ 7 k))), (3, .int (jI (σ 5 k))), (0, .ref (q 37)), (1, .ref (q 36)), (2, .int (jI k))]) X dX1_keep_196 rfl 0 rfl (by decide) rfl ?_
            refine z_goto (tgt := 108) X dX1_keep_199 (by decide) ?_
            exact ih108 (x + 1) u1  (by first | exact ⟨by omega, fun F hF => by rw [← h2 F hF]; funext i; rw [up_f _ _ _ _ (by omega), up_f _ _ _ _ (by omega), up_f _ _ _ _ (by omega), up_f _ _ _ _ (by omega)], keep_step h3 keep_hb (keep_A kN ja jb jx hne h124)⟩ | exact ⟨by omega, fun F hF => by rw [← h2 F hF]; funext i; rw [up_f _ _ _ _ (by omega)], keep_step h3 (fun i hi => ⟨up_n _ _ _ hi, rfl, rfl, rfl⟩) (keep_B kN ja jb jx hne h124 h184)⟩ | exact ⟨by omega, h2, keep_step h3 (fun i hi => ⟨rfl, rfl, rfl, rfl⟩) (keep_C kN ja jb jx hne h124 h184)⟩) (by omega)
          · refine z_aload_n (pc' := 188) X dX1_keep_187 rfl 9 rfl rfl ?_
            refine z_get (pc' := 191) (C := RX1) (ref := "PivotBeats$Joins") (T := TX1) (N := 5) (v := .ref (q 10)) X dX1_keep_188 rfl hin1 2 rfl rfl 0 (by decide) (by decide +kernel) rfl rfl ?_
            refine z_iload (pc' := 193) X dX1_keep_191 rfl 0 rfl ?_
            refine z_iload (pc' := 195) X dX1_keep_193 rfl 4 rfl ?_
            refine z_iast (pc' := 196) (f := u1 10) (n := 7) (w' := CW E q (up u1 10 x (min (σ 10 (σ 5 k)) (σ 10 (σ 7 k))))) X dX1_keep_195 rfl 13 rfl (by decide) (by omega) rfl ?_
            refine z_iinc (pc' := 199) (lv' := [(11, .int (jI (x + 1))), (10, .int (jI (iXor (iXor (σ 13 (σ 5 k)) (σ 13 (σ 7 k))) (iShl 1 k)))), (9, .int (jI (((σ 12 (σ 5 k)) + (th (σ 8 k) - th (σ 6 k))) - (σ 12 (σ 7 k))))), (8, .int (jI (((σ 11 (σ 5 k)) + (tw (σ 8 k) - tw (σ 6 k))) - (σ 11 (σ 7 k))))), (7, .int (jI (min (σ 10 (σ 5 k)) (σ 10 (σ 7 k))))), (6, .int (jI (σ 10 (σ 7 k)))), (5, .int (jI (σ 10 (σ 5 k)))), (4, .int (jI (σ 7 k))), (3, .int (jI (σ 5 k))), (0, .ref (q 37)), (1, .ref (q 36)), (2, .int (jI k))]) X dX1_keep_196 rfl 0 rfl (by decide) rfl ?_
            refine z_goto (tgt := 108) X dX1_keep_199 (by decide) ?_
            exact ih108 (x + 1) (up u1 10 x (min (σ 10 (σ 5 k)) (σ 10 (σ 7 k))))  (by first | exact ⟨by omega, fun F hF => by rw [← h2 F hF]; funext i; rw [up_f _ _ _ _ (by omega), up_f _ _ _ _ (by omega), up_f _ _ _ _ (by omega), up_f _ _ _ _ (by omega)], keep_step h3 keep_hb (keep_A kN ja jb jx hne h124)⟩ | exact ⟨by omega, fun F hF => by rw [← h2 F hF]; funext i; rw [up_f _ _ _ _ (by omega)], keep_step h3 (fun i hi => ⟨up_n _ _ _ hi, rfl, rfl, rfl⟩) (keep_B kN ja jb jx hne h124 h184)⟩ | exact ⟨by omega, h2, keep_step h3 (fun i hi => ⟨rfl, rfl, rfl, rfl⟩) (keep_C kN ja jb jx hne h124 h184)⟩) (by omega)
        · refine z_aload_n (pc' := 128) X dX1_keep_127 rfl 9 rfl rfl ?_
          refine z_get (pc' := 131) (C := RX1) (ref := "PivotBeats$Joins") (T := TX1) (N := 5) (v := .ref (q 11)) X dX1_keep_128 rfl hin1 2 rfl rfl 1 (by decide) (by decide +kernel) rfl rfl ?_
          refine z_iload (pc' := 133) X dX1_keep_131 rfl 0 rfl ?_
          refine z_dup2 (pc' := 134) X dX1_keep_133 rfl ⟨rfl, rfl⟩ ?_
          refine z_iald (pc' := 135) (f := u1 11) (n := 7) X dX1_keep_134 rfl 14 rfl (by decide) (by omega) ?_
          refine z_iload (pc' := 137) X dX1_keep_135 rfl 3 rfl ?_
          refine z_iadd (pc' := 138) X dX1_keep_137 rfl ?_
          refine z_iast (pc' := 139) (f := u1 11) (n := 7) (w' := CW E q (up u1 11 x ((u1 11 x) + (((σ 11 (σ 5 k)) + (tw (σ 8 k) - tw (σ 6 k))) - (σ 11 (σ 7 k)))))) X dX1_keep_138 rfl 14 rfl (by decide) (by omega) rfl ?_
          refine z_aload_n (pc' := 140) X dX1_keep_139 rfl 9 rfl rfl ?_
          refine z_get (pc' := 143) (C := RX1) (ref := "PivotBeats$Joins") (T := TX1) (N := 5) (v := .ref (q 12)) X dX1_keep_140 rfl hin1 2 rfl rfl 2 (by decide) (by decide +kernel) rfl rfl ?_
          refine z_iload (pc' := 145) X dX1_keep_143 rfl 0 rfl ?_
          refine z_dup2 (pc' := 146) X dX1_keep_145 rfl ⟨rfl, rfl⟩ ?_
          refine z_iald (pc' := 147) (f := u1 12) (n := 7) X dX1_keep_146 rfl 15 rfl (by decide) (by omega) ?_
          refine z_iload (pc' := 149) X dX1_keep_147 rfl 2 rfl ?_
          refine z_iadd (pc' := 150) X dX1_keep_149 rfl ?_
          refine z_iast (pc' := 151) (f := u1 12) (n := 7) (w' := CW E q (up (up u1 11 x ((u1 11 x) + (((σ 11 (σ 5 k)) + (tw (σ 8 k) - tw (σ 6 k))) - (σ 11 (σ 7 k))))) 12 x ((u1 12 x) + (((σ 12 (σ 5 k)) + (th (σ 8 k) - th (σ 6 k))) - (σ 12 (σ 7 k)))))) X dX1_keep_150 rfl 15 rfl (by decide) (by omega) rfl ?_
          refine z_aload_n (pc' := 152) X dX1_keep_151 rfl 9 rfl rfl ?_
          refine z_get (pc' := 155) (C := RX1) (ref := "PivotBeats$Joins") (T := TX1) (N := 5) (v := .ref (q 13)) X dX1_keep_152 rfl hin1 2 rfl rfl 3 (by decide) (by decide +kernel) rfl rfl ?_
          refine z_iload (pc' := 157) X dX1_keep_155 rfl 0 rfl ?_
          refine z_dup2 (pc' := 158) X dX1_keep_157 rfl ⟨rfl, rfl⟩ ?_
          refine z_iald (pc' := 159) (f := u1 13) (n := 7) X dX1_keep_158 rfl 16 rfl (by decide) (by omega) ?_
          refine z_iload (pc' := 161) X dX1_keep_159 rfl 1 rfl ?_
          refine z_ixor (pc' := 162) X dX1_keep_161 rfl (by omega) ?_
          refine z_iast (pc' := 163) (f := u1 13) (n := 7) (w' := CW E q (up (up (up u1 11 x ((u1 11 x) + (((σ 11 (σ 5 k)) + (tw (σ 8 k) - tw (σ 6 k))) - (σ 11 (σ 7 k))))) 12 x ((u1 12 x) + (((σ 12 (σ 5 k)) + (th (σ 8 k) - th (σ 6 k))) - (σ 12 (σ 7 k))))) 13 x (iXor (u1 13 x) (iXor (iXor (σ 13 (σ 5 k)) (σ 13 (σ 7 k))) (iShl 1 k))))) X dX1_keep_162 rfl 16 rfl (by decide) (by omega) rfl ?_
          refine z_aload_n (pc' := 164) X dX1_keep_163 rfl 9 rfl rfl ?_
          refine z_get (pc' := 167) (C := RX1) (ref := "PivotBeats$Joins") (T := TX1) (N := 5) (v := .ref (q 10)) X dX1_keep_164 rfl hin1 2 rfl rfl 0 (by decide) (by decide +kernel) rfl rfl ?_
          refine z_iload (pc' := 169) X dX1_keep_167 rfl 0 rfl ?_
          refine z_iload (pc' := 171) X dX1_keep_169 rfl 4 rfl ?_
          refine z_iast (pc' := 172) (f := u1 10) (n := 7) (w' := CW E q (up (up (up (up u1 11 x ((u1 11 x) + (((σ 11 (σ 5 k)) + (tw (σ 8 k) - tw (σ 6 k))) - (σ 11 (σ 7 k))))) 12 x ((u1 12 x) + (((σ 12 (σ 5 k)) + (th (σ 8 k) - th (σ 6 k))) - (σ 12 (σ 7 k))))) 13 x (iXor (u1 13 x) (iXor (iXor (σ 13 (σ 5 k)) (σ 13 (σ 7 k))) (iShl 1 k)))) 10 x (min (σ 10 (σ 5 k)) (σ 10 (σ 7 k))))) X dX1_keep_171 rfl 13 rfl (by decide) (by omega) rfl ?_
          refine z_goto (tgt := 196) X dX1_keep_172 (by decide) ?_
          refine z_iinc (pc' := 199) (lv' := [(11, .int (jI (x + 1))), (10, .int (jI (iXor (iXor (σ 13 (σ 5 k)) (σ 13 (σ 7 k))) (iShl 1 k)))), (9, .int (jI (((σ 12 (σ 5 k)) + (th (σ 8 k) - th (σ 6 k))) - (σ 12 (σ 7 k))))), (8, .int (jI (((σ 11 (σ 5 k)) + (tw (σ 8 k) - tw (σ 6 k))) - (σ 11 (σ 7 k))))), (7, .int (jI (min (σ 10 (σ 5 k)) (σ 10 (σ 7 k))))), (6, .int (jI (σ 10 (σ 7 k)))), (5, .int (jI (σ 10 (σ 5 k)))), (4, .int (jI (σ 7 k))), (3, .int (jI (σ 5 k))), (0, .ref (q 37)), (1, .ref (q 36)), (2, .int (jI k))]) X dX1_keep_196 rfl 0 rfl (by decide) rfl ?_
          refine z_goto (tgt := 108) X dX1_keep_199 (by decide) ?_
          exact ih108 (x + 1) (up (up (up (up u1 11 x ((u1 11 x) + (((σ 11 (σ 5 k)) + (tw (σ 8 k) - tw (σ 6 k))) - (σ 11 (σ 7 k))))) 12 x ((u1 12 x) + (((σ 12 (σ 5 k)) + (th (σ 8 k) - th (σ 6 k))) - (σ 12 (σ 7 k))))) 13 x (iXor (u1 13 x) (iXor (iXor (σ 13 (σ 5 k)) (σ 13 (σ 7 k))) (iShl 1 k)))) 10 x (min (σ 10 (σ 5 k)) (σ 10 (σ 7 k))))  (by first | exact ⟨by omega, fun F hF => by rw [← h2 F hF]; funext i; rw [up_f _ _ _ _ (by omega), up_f _ _ _ _ (by omega), up_f _ _ _ _ (by omega), up_f _ _ _ _ (by omega)], keep_step h3 keep_hb (keep_A kN ja jb jx hne h124)⟩ | exact ⟨by omega, fun F hF => by rw [← h2 F hF]; funext i; rw [up_f _ _ _ _ (by omega)], keep_step h3 (fun i hi => ⟨up_n _ _ _ hi, rfl, rfl, rfl⟩) (keep_B kN ja jb jx hne h124 h184)⟩ | exact ⟨by omega, h2, keep_step h3 (fun i hi => ⟨rfl, rfl, rfl, rfl⟩) (keep_C kN ja jb jx hne h124 h184)⟩) (by omega)
  exact lp108 _ 0 σ  (⟨by omega, fun _ _ => rfl, fun s s0 s1 => ⟨fun q => by omega, fun q => hJ s s0 s1⟩⟩) (Nat.lt_succ_self _)
set_option maxHeartbeats 4000000 in
set_option maxRecDepth 100000 in
theorem kX1_isPlayed (l : Launch) (D : va_G) (E : Nat → Nat) (q : Nat → Nat) (σ : St) (s_ : Int) (hr : (0 ≤ s_ ∧ s_ < 7) ∧ (0 ≤ σ 10 s_ ∧ σ 10 s_ < 7)) : CtI l D E yX1_isPlayed wsX1_isPlayed ({ frames := 0, cells := 0, slots := 0, locals := 0 } : Room) [.ref (q 37), .int (jI s_)] (CW E q σ) (CW E q) (fun (rv : Int) (uu : St) => σ = uu ∧ ((rv = 1 ∧ (σ 10 s_ = 0)) ∨ (rv = 0 ∧ ¬ (σ 10 s_ = 0)))) := by
  refine mk_I (cc := cX1_isPlayed) (maxL := 2) (ret := some .boolean) (by decide) rfl (Nat.le_of_ble_eq_true rfl) ?_
  intro p e s m args below meth c A X hret
  have hin1 : ∀ x ∈ u_ws RX1 TX1 5, x ∈ wsX1_isPlayed := fun _ h => List.mem_cons_of_mem _ (List.mem_append_right _ h)
  refine z_lv (lv' := [(0, .ref (q 37)), (1, .int (jI s_))]) [0, 1] rfl ?_
  refine z_aload_n (pc' := 1) X dX1_isPlayed_0 rfl 0 rfl rfl ?_
  refine z_get (pc' := 4) (C := RX1) (ref := "PivotBeats$Joins") (T := TX1) (N := 5) (v := .ref (q 10)) X dX1_isPlayed_1 rfl hin1 2 rfl rfl 0 (by decide) (by decide +kernel) rfl rfl ?_
  refine z_iload_n (pc' := 5) X dX1_isPlayed_4 rfl 1 rfl rfl ?_
  refine z_iald (pc' := 6) (f := σ 10) (n := 7) X dX1_isPlayed_5 rfl 13 rfl (by decide) (by omega) ?_
  refine z_if_ne (tgt := 13) (pc' := 9) X dX1_isPlayed_6 (by decide) rfl (by omega) (fun h6 => ?_) (fun h6 => ?_)
  · refine z_iconst (pc' := 14) X dX1_isPlayed_13 rfl ?_
    exact z_zret (post := (fun (rv : Int) (uu : St) => σ = uu ∧ ((rv = 1 ∧ (σ 10 s_ = 0)) ∨ (rv = 0 ∧ ¬ (σ 10 s_ = 0))))) X dX1_isPlayed_14 hret σ (by first | decide | omega) (⟨rfl, Or.inr ⟨rfl, by omega⟩⟩)
  · refine z_iconst (pc' := 10) X dX1_isPlayed_9 rfl ?_
    refine z_goto (tgt := 14) X dX1_isPlayed_10 (by decide) ?_
    exact z_zret (post := (fun (rv : Int) (uu : St) => σ = uu ∧ ((rv = 1 ∧ (σ 10 s_ = 0)) ∨ (rv = 0 ∧ ¬ (σ 10 s_ = 0))))) X dX1_isPlayed_14 hret σ (by first | decide | omega) (⟨rfl, Or.inl ⟨rfl, by omega⟩⟩)
set_option maxHeartbeats 4000000 in
set_option maxRecDepth 100000 in
theorem kX1_twosBetween (l : Launch) (D : va_G) (E : Nat → Nat) (q : Nat → Nat) (σ : St) (a b : Int) (hr : (0 ≤ a ∧ a < 7) ∧ (0 ≤ b ∧ b < 7)) : CtI l D E yX1_twosBetween wsX1_twosBetween ({ frames := 0, cells := 0, slots := 0, locals := 0 } : Room) [.ref (q 37), .int (jI a), .int (jI b)] (CW E q σ) (CW E q) (fun (rv : Int) (uu : St) => σ = uu ∧ rv = σ 11 b - σ 11 a) := by
  refine mk_I (cc := cX1_twosBetween) (maxL := 3) (ret := some .int) (by decide) rfl (Nat.le_of_ble_eq_true rfl) ?_
  intro p e s m args below meth c A X hret
  have hin1 : ∀ x ∈ u_ws RX1 TX1 5, x ∈ wsX1_twosBetween := fun _ h => List.mem_cons_of_mem _ (List.mem_append_right _ h)
  refine z_lv (lv' := [(0, .ref (q 37)), (1, .int (jI a)), (2, .int (jI b))]) [0, 1, 2] rfl ?_
  refine z_aload_n (pc' := 1) X dX1_twosBetween_0 rfl 0 rfl rfl ?_
  refine z_get (pc' := 4) (C := RX1) (ref := "PivotBeats$Joins") (T := TX1) (N := 5) (v := .ref (q 11)) X dX1_twosBetween_1 rfl hin1 2 rfl rfl 1 (by decide) (by decide +kernel) rfl rfl ?_
  refine z_iload_n (pc' := 5) X dX1_twosBetween_4 rfl 2 rfl rfl ?_
  refine z_iald (pc' := 6) (f := σ 11) (n := 7) X dX1_twosBetween_5 rfl 14 rfl (by decide) (by omega) ?_
  refine z_aload_n (pc' := 7) X dX1_twosBetween_6 rfl 0 rfl rfl ?_
  refine z_get (pc' := 10) (C := RX1) (ref := "PivotBeats$Joins") (T := TX1) (N := 5) (v := .ref (q 11)) X dX1_twosBetween_7 rfl hin1 2 rfl rfl 1 (by decide) (by decide +kernel) rfl rfl ?_
  refine z_iload_n (pc' := 11) X dX1_twosBetween_10 rfl 1 rfl rfl ?_
  refine z_iald (pc' := 12) (f := σ 11) (n := 7) X dX1_twosBetween_11 rfl 14 rfl (by decide) (by omega) ?_
  refine z_isub (pc' := 13) X dX1_twosBetween_12 rfl ?_
  exact z_iret (post := (fun (rv : Int) (uu : St) => σ = uu ∧ rv = σ 11 b - σ 11 a)) X dX1_twosBetween_13 hret σ (⟨rfl, by first | rfl | omega⟩)
set_option maxHeartbeats 4000000 in
set_option maxRecDepth 100000 in
theorem kX1_threesBetween (l : Launch) (D : va_G) (E : Nat → Nat) (q : Nat → Nat) (σ : St) (a b : Int) (hr : (0 ≤ a ∧ a < 7) ∧ (0 ≤ b ∧ b < 7)) : CtI l D E yX1_threesBetween wsX1_threesBetween ({ frames := 0, cells := 0, slots := 0, locals := 0 } : Room) [.ref (q 37), .int (jI a), .int (jI b)] (CW E q σ) (CW E q) (fun (rv : Int) (uu : St) => σ = uu ∧ rv = σ 12 b - σ 12 a) := by
  refine mk_I (cc := cX1_threesBetween) (maxL := 3) (ret := some .int) (by decide) rfl (Nat.le_of_ble_eq_true rfl) ?_
  intro p e s m args below meth c A X hret
  have hin1 : ∀ x ∈ u_ws RX1 TX1 5, x ∈ wsX1_threesBetween := fun _ h => List.mem_cons_of_mem _ (List.mem_append_right _ h)
  refine z_lv (lv' := [(0, .ref (q 37)), (1, .int (jI a)), (2, .int (jI b))]) [0, 1, 2] rfl ?_
  refine z_aload_n (pc' := 1) X dX1_threesBetween_0 rfl 0 rfl rfl ?_
  refine z_get (pc' := 4) (C := RX1) (ref := "PivotBeats$Joins") (T := TX1) (N := 5) (v := .ref (q 12)) X dX1_threesBetween_1 rfl hin1 2 rfl rfl 2 (by decide) (by decide +kernel) rfl rfl ?_
  refine z_iload_n (pc' := 5) X dX1_threesBetween_4 rfl 2 rfl rfl ?_
  refine z_iald (pc' := 6) (f := σ 12) (n := 7) X dX1_threesBetween_5 rfl 15 rfl (by decide) (by omega) ?_
  refine z_aload_n (pc' := 7) X dX1_threesBetween_6 rfl 0 rfl rfl ?_
  refine z_get (pc' := 10) (C := RX1) (ref := "PivotBeats$Joins") (T := TX1) (N := 5) (v := .ref (q 12)) X dX1_threesBetween_7 rfl hin1 2 rfl rfl 2 (by decide) (by decide +kernel) rfl rfl ?_
  refine z_iload_n (pc' := 11) X dX1_threesBetween_10 rfl 1 rfl rfl ?_
  refine z_iald (pc' := 12) (f := σ 12) (n := 7) X dX1_threesBetween_11 rfl 15 rfl (by decide) (by omega) ?_
  refine z_isub (pc' := 13) X dX1_threesBetween_12 rfl ?_
  exact z_iret (post := (fun (rv : Int) (uu : St) => σ = uu ∧ rv = σ 12 b - σ 12 a)) X dX1_threesBetween_13 hret σ (⟨rfl, by first | rfl | omega⟩)
set_option maxHeartbeats 4000000 in
set_option maxRecDepth 100000 in
theorem kX1_routeBetween (l : Launch) (D : va_G) (E : Nat → Nat) (q : Nat → Nat) (σ : St) (a b : Int) (hr : (0 ≤ a ∧ a < 7) ∧ (0 ≤ b ∧ b < 7)) (h13 : (0 ≤ σ 13 a ∧ σ 13 a < 4096) ∧ (0 ≤ σ 13 b ∧ σ 13 b < 4096)) : CtI l D E yX1_routeBetween wsX1_routeBetween ({ frames := 0, cells := 0, slots := 0, locals := 0 } : Room) [.ref (q 37), .int (jI a), .int (jI b)] (CW E q σ) (CW E q) (fun (rv : Int) (uu : St) => σ = uu ∧ rv = iXor (σ 13 a) (σ 13 b)) := by
  refine mk_I (cc := cX1_routeBetween) (maxL := 3) (ret := some .int) (by decide) rfl (Nat.le_of_ble_eq_true rfl) ?_
  intro p e s m args below meth c A X hret
  have hin1 : ∀ x ∈ u_ws RX1 TX1 5, x ∈ wsX1_routeBetween := fun _ h => List.mem_cons_of_mem _ (List.mem_append_right _ h)
  refine z_lv (lv' := [(0, .ref (q 37)), (1, .int (jI a)), (2, .int (jI b))]) [0, 1, 2] rfl ?_
  refine z_aload_n (pc' := 1) X dX1_routeBetween_0 rfl 0 rfl rfl ?_
  refine z_get (pc' := 4) (C := RX1) (ref := "PivotBeats$Joins") (T := TX1) (N := 5) (v := .ref (q 13)) X dX1_routeBetween_1 rfl hin1 2 rfl rfl 3 (by decide) (by decide +kernel) rfl rfl ?_
  refine z_iload_n (pc' := 5) X dX1_routeBetween_4 rfl 1 rfl rfl ?_
  refine z_iald (pc' := 6) (f := σ 13) (n := 7) X dX1_routeBetween_5 rfl 16 rfl (by decide) (by omega) ?_
  refine z_aload_n (pc' := 7) X dX1_routeBetween_6 rfl 0 rfl rfl ?_
  refine z_get (pc' := 10) (C := RX1) (ref := "PivotBeats$Joins") (T := TX1) (N := 5) (v := .ref (q 13)) X dX1_routeBetween_7 rfl hin1 2 rfl rfl 3 (by decide) (by decide +kernel) rfl rfl ?_
  refine z_iload_n (pc' := 11) X dX1_routeBetween_10 rfl 2 rfl rfl ?_
  refine z_iald (pc' := 12) (f := σ 13) (n := 7) X dX1_routeBetween_11 rfl 16 rfl (by decide) (by omega) ?_
  refine z_ixor (pc' := 13) X dX1_routeBetween_12 rfl (by omega) ?_
  exact z_iret (post := (fun (rv : Int) (uu : St) => σ = uu ∧ rv = iXor (σ 13 a) (σ 13 b))) X dX1_routeBetween_13 hret σ (⟨rfl, by first | rfl | omega⟩)
set_option maxHeartbeats 4000000 in
set_option maxRecDepth 100000 in
theorem kX1_judge (l : Launch) (D : va_G) (E : Nat → Nat) (q : Nat → Nat) (σ : St) (k : Int) (hwf : WfC σ) (hk : 0 ≤ k ∧ k < σ 4 0) (hJ : ∀ s, 0 ≤ s → s < 7 → JQ (σ 5) (σ 6) (σ 7) (σ 8) σ k.toNat s) : CtI l D E yX1_judge wsX1_judge ({ frames := 2, cells := 0, slots := 0, locals := 71 } : Room) [.ref (q 37), .ref (q 36), .int (jI k)] (CW E q σ) (CW E q) (fun (rv : Int) (uu : St) => (rv = jK (σ 5) (σ 6) (σ 7) (σ 8) k.toNat ∧ (∀ F, (F < 10 ∨ 13 < F) → uu F = σ F) ∧ ∀ s, 0 ≤ s → s < 7 → JQ (σ 5) (σ 6) (σ 7) (σ 8) uu (k.toNat + 1) s)) := by
  refine mk_I (cc := cX1_judge) (maxL := 6) (ret := some .int) (by decide) rfl (Nat.le_of_ble_eq_true rfl) ?_
  intro p e s m args below meth c A X hret
  have hin3 : ∀ x ∈ u_ws RX3 TX3 9, x ∈ wsX1_judge := fun _ h => List.mem_cons_of_mem _ (List.mem_append_left _ (List.mem_append_right _ h))
  have hin1 : ∀ x ∈ u_ws RX1 TX1 5, x ∈ wsX1_judge := fun _ h => List.mem_cons_of_mem _ (List.mem_append_right _ h)
  refine z_lv (lv' := [(0, .ref (q 37)), (1, .ref (q 36)), (2, .int (jI k))]) [0, 1, 2] rfl ?_
  obtain ⟨n1, n0, n4, n16⟩ := hwf.n
  have ht := hwf.tie hk.1 hk.2
  have kN : ((k.toNat : Nat) : Int) = k := by omega
  have ja := hJ (σ 5 k) (by omega) (by omega)
  have jb := hJ (σ 7 k) (by omega) (by omega)
  have ra := ja.rng hwf (by omega) (by omega)
  have rb := jb.rng hwf (by omega) (by omega)
  have t1 := tw_rng ht.2.1
  have t2 := tw_rng ht.2.2.2.1
  refine z_aload_n (pc' := 1) X dX1_judge_0 rfl 1 rfl rfl ?_
  refine z_get (pc' := 4) (C := RX3) (ref := "PivotBeats$Piece") (T := TX3) (N := 9) (v := .ref (q 5)) X dX1_judge_1 rfl hin3 1 rfl rfl 4 (by decide) (by decide +kernel) rfl rfl ?_
  refine z_iload_n (pc' := 5) X dX1_judge_4 rfl 2 rfl rfl ?_
  refine z_iald (pc' := 6) (f := σ 5) (n := 12) X dX1_judge_5 rfl 8 rfl (by decide) (by omega) ?_
  refine z_istore_n (pc' := 7) (lv' := [(3, .int (jI (σ 5 k))), (0, .ref (q 37)), (1, .ref (q 36)), (2, .int (jI k))]) X dX1_judge_6 rfl rfl (by decide) rfl ?_
  refine z_aload_n (pc' := 8) X dX1_judge_7 rfl 2 rfl rfl ?_
  refine z_get (pc' := 11) (C := RX3) (ref := "PivotBeats$Piece") (T := TX3) (N := 9) (v := .ref (q 7)) X dX1_judge_8 rfl hin3 1 rfl rfl 6 (by decide) (by decide +kernel) rfl rfl ?_
  refine z_iload_n (pc' := 12) X dX1_judge_11 rfl 3 rfl rfl ?_
  refine z_iald (pc' := 13) (f := σ 7) (n := 12) X dX1_judge_12 rfl 10 rfl (by decide) (by omega) ?_
  refine z_istore (pc' := 15) (lv' := [(4, .int (jI (σ 7 k))), (3, .int (jI (σ 5 k))), (0, .ref (q 37)), (1, .ref (q 36)), (2, .int (jI k))]) X dX1_judge_13 rfl (by decide) rfl ?_
  refine z_aload_n (pc' := 16) X dX1_judge_15 rfl 2 rfl rfl ?_
  refine z_get (pc' := 19) (C := RX1) (ref := "PivotBeats$Joins") (T := TX1) (N := 5) (v := .ref (q 10)) X dX1_judge_16 rfl hin1 2 rfl rfl 0 (by decide) (by decide +kernel) rfl rfl ?_
  refine z_iload_n (pc' := 20) X dX1_judge_19 rfl 1 rfl rfl ?_
  refine z_iald (pc' := 21) (f := σ 10) (n := 7) X dX1_judge_20 rfl 13 rfl (by decide) (by omega) ?_
  refine z_aload_n (pc' := 22) X dX1_judge_21 rfl 2 rfl rfl ?_
  refine z_get (pc' := 25) (C := RX1) (ref := "PivotBeats$Joins") (T := TX1) (N := 5) (v := .ref (q 10)) X dX1_judge_22 rfl hin1 2 rfl rfl 0 (by decide) (by decide +kernel) rfl rfl ?_
  refine z_iload (pc' := 27) X dX1_judge_25 rfl 0 rfl ?_
  refine z_iald (pc' := 28) (f := σ 10) (n := 7) X dX1_judge_27 rfl 13 rfl (by decide) (by omega) ?_
  refine z_icmp_eq (tgt := 39) (pc' := 31) X dX1_judge_28 (by decide) rfl (by omega) (fun h28 => ?_) (fun h28 => ?_)
  · refine z_aload_n (pc' := 40) X dX1_judge_39 rfl 2 rfl rfl ?_
    refine z_iload_n (pc' := 41) X dX1_judge_40 rfl 1 rfl rfl ?_
    refine z_iload (pc' := 43) X dX1_judge_41 rfl 0 rfl ?_
    refine z_callVI (pc' := 46) (S := St) (As := [.int (jI (σ 5 k)), .int (jI (σ 7 k))]) (rest := []) X dX1_judge_43 rfl (kX1_twosBetween l D E q σ (σ 5 k) (σ 7 k)  (by omega)) (cwV 2 X.1.2.2.2.2 gX1_judge_X1_twosBetween rfl rfl rfl (by decide +kernel) ⟨Nat.le_of_ble_eq_true rfl, Nat.le_of_ble_eq_true rfl⟩) 2 rfl rfl rfl rfl (Nat.le_of_ble_eq_true rfl) (fun r43 u43 hp43 => ?_)
    obtain ⟨rfl, hp43⟩ := hp43; replace hp43 := hp43.symm; subst hp43
    refine z_aload_n (pc' := 47) X dX1_judge_46 rfl 3 rfl rfl ?_
    refine z_iload_n (pc' := 48) X dX1_judge_47 rfl 4 rfl rfl ?_
    refine z_callVI (pc' := 51) (S := St) (As := [.int (jI k)]) (rest := [.int (jI (σ 11 (σ 7 k) - σ 11 (σ 5 k)))]) X dX1_judge_48 rfl (kX3_twosOfTie l D E q σ k  (hwf) (hk)) (cwV 1 X.1.2.2.2.2 gX1_judge_X3_twosOfTie rfl rfl rfl (by decide +kernel) ⟨Nat.le_of_ble_eq_true rfl, Nat.le_of_ble_eq_true rfl⟩) 1 rfl rfl rfl rfl (Nat.le_of_ble_eq_true rfl) (fun r48 u48 hp48 => ?_)
    obtain ⟨rfl, hp48⟩ := hp48; replace hp48 := hp48.symm; subst hp48
    refine z_icmp_ne (tgt := 73) (pc' := 54) X dX1_judge_51 (by decide) rfl (by omega) (fun h51 => ?_) (fun h51 => ?_)
    · refine z_iconst (pc' := 74) X dX1_judge_73 rfl ?_
      refine z_istore (pc' := 76) (lv' := [(5, .int (jI 0)), (4, .int (jI (σ 7 k))), (3, .int (jI (σ 5 k))), (0, .ref (q 37)), (1, .ref (q 36)), (2, .int (jI k))]) X dX1_judge_74 rfl (by decide) rfl ?_
      refine z_iload (pc' := 78) X dX1_judge_76 rfl 0 rfl ?_
      refine z_if_eq (tgt := 85) (pc' := 81) X dX1_judge_78 (by decide) rfl (by omega) (fun _ => ?_) (fun h => absurd h (by decide))
      refine z_iconst (pc' := 86) X dX1_judge_85 rfl ?_
      exact z_iret (post := (fun (rv : Int) (uu : St) => (rv = jK (σ 5) (σ 6) (σ 7) (σ 8) k.toNat ∧ (∀ F, (F < 10 ∨ 13 < F) → uu F = σ F) ∧ ∀ s, 0 ≤ s → s < 7 → JQ (σ 5) (σ 6) (σ 7) (σ 8) uu (k.toNat + 1) s))) X dX1_judge_86 hret σ (by first | exact ⟨jd_1 kN ja jb h28 h51 h66, fun _ _ => rfl, jd_s kN ja jb h28 hJ⟩ | exact ⟨jd_2 kN ja jb h28 (fun q => h66 q.2), fun _ _ => rfl, jd_s kN ja jb h28 hJ⟩ | exact ⟨jd_2 kN ja jb h28 (fun q => h51 q.1), fun _ _ => rfl, jd_s kN ja jb h28 hJ⟩)
    · refine z_aload_n (pc' := 55) X dX1_judge_54 rfl 2 rfl rfl ?_
      refine z_iload_n (pc' := 56) X dX1_judge_55 rfl 1 rfl rfl ?_
      refine z_iload (pc' := 58) X dX1_judge_56 rfl 0 rfl ?_
      refine z_callVI (pc' := 61) (S := St) (As := [.int (jI (σ 5 k)), .int (jI (σ 7 k))]) (rest := []) X dX1_judge_58 rfl (kX1_threesBetween l D E q σ (σ 5 k) (σ 7 k)  (by omega)) (cwV 2 X.1.2.2.2.2 gX1_judge_X1_threesBetween rfl rfl rfl (by decide +kernel) ⟨Nat.le_of_ble_eq_true rfl, Nat.le_of_ble_eq_true rfl⟩) 2 rfl rfl rfl rfl (Nat.le_of_ble_eq_true rfl) (fun r58 u58 hp58 => ?_)
      obtain ⟨rfl, hp58⟩ := hp58; replace hp58 := hp58.symm; subst hp58
      refine z_aload_n (pc' := 62) X dX1_judge_61 rfl 3 rfl rfl ?_
      refine z_iload_n (pc' := 63) X dX1_judge_62 rfl 4 rfl rfl ?_
      refine z_callVI (pc' := 66) (S := St) (As := [.int (jI k)]) (rest := [.int (jI (σ 12 (σ 7 k) - σ 12 (σ 5 k)))]) X dX1_judge_63 rfl (kX3_threesOfTie l D E q σ k  (hwf) (hk)) (cwV 1 X.1.2.2.2.2 gX1_judge_X3_threesOfTie rfl rfl rfl (by decide +kernel) ⟨Nat.le_of_ble_eq_true rfl, Nat.le_of_ble_eq_true rfl⟩) 1 rfl rfl rfl rfl (Nat.le_of_ble_eq_true rfl) (fun r63 u63 hp63 => ?_)
      obtain ⟨rfl, hp63⟩ := hp63; replace hp63 := hp63.symm; subst hp63
      refine z_icmp_ne (tgt := 73) (pc' := 69) X dX1_judge_66 (by decide) rfl (by omega) (fun h66 => ?_) (fun h66 => ?_)
      · refine z_iconst (pc' := 74) X dX1_judge_73 rfl ?_
        refine z_istore (pc' := 76) (lv' := [(5, .int (jI 0)), (4, .int (jI (σ 7 k))), (3, .int (jI (σ 5 k))), (0, .ref (q 37)), (1, .ref (q 36)), (2, .int (jI k))]) X dX1_judge_74 rfl (by decide) rfl ?_
        refine z_iload (pc' := 78) X dX1_judge_76 rfl 0 rfl ?_
        refine z_if_eq (tgt := 85) (pc' := 81) X dX1_judge_78 (by decide) rfl (by omega) (fun _ => ?_) (fun h => absurd h (by decide))
        refine z_iconst (pc' := 86) X dX1_judge_85 rfl ?_
        exact z_iret (post := (fun (rv : Int) (uu : St) => (rv = jK (σ 5) (σ 6) (σ 7) (σ 8) k.toNat ∧ (∀ F, (F < 10 ∨ 13 < F) → uu F = σ F) ∧ ∀ s, 0 ≤ s → s < 7 → JQ (σ 5) (σ 6) (σ 7) (σ 8) uu (k.toNat + 1) s))) X dX1_judge_86 hret σ (by first | exact ⟨jd_1 kN ja jb h28 h51 h66, fun _ _ => rfl, jd_s kN ja jb h28 hJ⟩ | exact ⟨jd_2 kN ja jb h28 (fun q => h66 q.2), fun _ _ => rfl, jd_s kN ja jb h28 hJ⟩ | exact ⟨jd_2 kN ja jb h28 (fun q => h51 q.1), fun _ _ => rfl, jd_s kN ja jb h28 hJ⟩)
      · refine z_iconst (pc' := 70) X dX1_judge_69 rfl ?_
        refine z_goto (tgt := 74) X dX1_judge_70 (by decide) ?_
        refine z_istore (pc' := 76) (lv' := [(5, .int (jI 1)), (4, .int (jI (σ 7 k))), (3, .int (jI (σ 5 k))), (0, .ref (q 37)), (1, .ref (q 36)), (2, .int (jI k))]) X dX1_judge_74 rfl (by decide) rfl ?_
        refine z_iload (pc' := 78) X dX1_judge_76 rfl 0 rfl ?_
        refine z_if_eq (tgt := 85) (pc' := 81) X dX1_judge_78 (by decide) rfl (by omega) (fun h => absurd h (by decide)) (fun _ => ?_)
        refine z_iconst (pc' := 82) X dX1_judge_81 rfl ?_
        refine z_goto (tgt := 86) X dX1_judge_82 (by decide) ?_
        exact z_iret (post := (fun (rv : Int) (uu : St) => (rv = jK (σ 5) (σ 6) (σ 7) (σ 8) k.toNat ∧ (∀ F, (F < 10 ∨ 13 < F) → uu F = σ F) ∧ ∀ s, 0 ≤ s → s < 7 → JQ (σ 5) (σ 6) (σ 7) (σ 8) uu (k.toNat + 1) s))) X dX1_judge_86 hret σ (by first | exact ⟨jd_1 kN ja jb h28 h51 h66, fun _ _ => rfl, jd_s kN ja jb h28 hJ⟩ | exact ⟨jd_2 kN ja jb h28 (fun q => h66 q.2), fun _ _ => rfl, jd_s kN ja jb h28 hJ⟩ | exact ⟨jd_2 kN ja jb h28 (fun q => h51 q.1), fun _ _ => rfl, jd_s kN ja jb h28 hJ⟩)
  · refine z_aload_n (pc' := 32) X dX1_judge_31 rfl 2 rfl rfl ?_
    refine z_aload_n (pc' := 33) X dX1_judge_32 rfl 3 rfl rfl ?_
    refine z_iload_n (pc' := 34) X dX1_judge_33 rfl 4 rfl rfl ?_
    refine z_callVV (pc' := 37) (S := St) (As := [.ref (q 36), .int (jI k)]) (rest := []) X dX1_judge_34 rfl (kX1_keep l D E q σ k  (hwf) (hk) (hJ) (h28)) (cwV 2 X.1.2.2.2.2 gX1_judge_X1_keep rfl rfl rfl (by decide +kernel) ⟨Nat.le_of_ble_eq_true rfl, Nat.le_of_ble_eq_true rfl⟩) 2 rfl rfl rfl rfl (Nat.le_of_ble_eq_true rfl) (fun u34 hp34 => ?_)
    obtain ⟨hn34, hj34⟩ := hp34
    refine z_iconst (pc' := 38) X dX1_judge_37 rfl ?_
    exact z_iret (post := (fun (rv : Int) (uu : St) => (rv = jK (σ 5) (σ 6) (σ 7) (σ 8) k.toNat ∧ (∀ F, (F < 10 ∨ 13 < F) → uu F = σ F) ∧ ∀ s, 0 ≤ s → s < 7 → JQ (σ 5) (σ 6) (σ 7) (σ 8) uu (k.toNat + 1) s))) X dX1_judge_38 hret u34 (⟨jd_0 kN ja jb h28, hn34, hj34⟩)
set_option maxHeartbeats 4000000 in
set_option maxRecDepth 100000 in
theorem kX1_follow (l : Launch) (D : va_G) (E : Nat → Nat) (q : Nat → Nat) (σ : St) (hwf : WfC σ) : CtV l D E yX1_follow wsX1_follow ({ frames := 3, cells := 0, slots := 0, locals := 96 } : Room) [.ref (q 37), .ref (q 36)] (CW E q σ) (CW E q) (fun (uu : St) => (∀ F, (F < 10 ∨ 14 < F) → uu F = σ F) ∧ JI uu) := by
  refine mk_V (cc := cX1_follow) (maxL := 3) (ret := none) (by decide) rfl (Nat.le_of_ble_eq_true rfl) ?_
  intro p e s m args below meth c A X hret
  have hin1 : ∀ x ∈ u_ws RX1 TX1 5, x ∈ wsX1_follow := fun _ h => List.mem_cons_of_mem _ (List.mem_append_left _ (List.mem_append_right _ h))
  have hin3 : ∀ x ∈ u_ws RX3 TX3 9, x ∈ wsX1_follow := fun _ h => List.mem_cons_of_mem _ (List.mem_append_right _ h)
  refine z_lv (lv' := [(0, .ref (q 37)), (1, .ref (q 36))]) [0, 1] rfl ?_
  obtain ⟨n1, n0, n4, n16⟩ := hwf.n
  refine z_iconst (pc' := 1) X dX1_follow_0 rfl ?_
  refine z_istore_n (pc' := 2) (lv' := [(2, .int (jI 0)), (0, .ref (q 37)), (1, .ref (q 36))]) X dX1_follow_1 rfl rfl (by decide) rfl ?_
  have lp2 : ∀ (nF : Nat) (x : Int) (u1 : St) , ((0 ≤ x ∧ x ≤ 7) ∧ (∀ F, (F < 10 ∨ 13 < F) → u1 F = σ F) ∧ ∀ s, 0 ≤ s → s < x → u1 10 s = s ∧ u1 11 s = 0 ∧ u1 12 s = 0 ∧ u1 13 s = 0) → ((7 - x).toNat : Nat) < nF → J p l e (headSpec wsX1_follow ({ frames := 3, cells := 0, slots := 0, locals := 96 } : Room)).room s m args below meth c D A 3 (MQ below (va_Qv (fun (uu : St) => (∀ F, (F < 10 ∨ 14 < F) → uu F = σ F) ∧ JI uu) (Bw D (CW E q) A) A) args s 0 0 A) 2 [(2, .int (jI x)), (0, .ref (q 37)), (1, .ref (q 36))] [] (CW E q u1) := by
    intro nF
    induction nF with
    | zero => intro x u1  hI hn; exact absurd hn (Nat.not_lt_zero _)
    | succ nF ih2 =>
      intro x u1  hI hn
      obtain ⟨h1, h2, h3⟩ := hI
      refine z_iload_n (pc' := 3) X dX1_follow_2 rfl 0 rfl rfl ?_
      refine z_bipush (pc' := 5) X dX1_follow_3 rfl rfl ?_
      refine z_icmp_ge (tgt := 42) (pc' := 8) X dX1_follow_5 (by decide) rfl (by omega) (fun h5 => ?_) (fun h5 => ?_)
      · refine z_iconst (pc' := 43) X dX1_follow_42 rfl ?_
        refine z_istore_n (pc' := 44) (lv' := [(2, .int (jI 0)), (0, .ref (q 37)), (1, .ref (q 36))]) X dX1_follow_43 rfl rfl (by decide) rfl ?_
        have lp44 : ∀ (nF : Nat) (k : Int) (u2 : St) , ((0 ≤ k ∧ k ≤ σ 4 0) ∧ (∀ F, (F < 10 ∨ 14 < F) → u2 F = σ F) ∧ (∀ s, 0 ≤ s → s < 7 → JQ (σ 5) (σ 6) (σ 7) (σ 8) u2 k.toNat s) ∧ ∀ j, 0 ≤ j → j < k → u2 14 j = jK (σ 5) (σ 6) (σ 7) (σ 8) j.toNat) → ((12 - k).toNat : Nat) < nF → J p l e (headSpec wsX1_follow ({ frames := 3, cells := 0, slots := 0, locals := 96 } : Room)).room s m args below meth c D A 3 (MQ below (va_Qv (fun (uu : St) => (∀ F, (F < 10 ∨ 14 < F) → uu F = σ F) ∧ JI uu) (Bw D (CW E q) A) A) args s 0 0 A) 44 [(2, .int (jI k)), (0, .ref (q 37)), (1, .ref (q 36))] [] (CW E q u2) := by
          intro nF
          induction nF with
          | zero => intro k u2  hI hn; exact absurd hn (Nat.not_lt_zero _)
          | succ nF ih44 =>
            intro k u2  hI hn
            obtain ⟨h1, h2, h3, h4⟩ := hI
            have e4 : u2 4 0 = σ 4 0 := by rw [h2 4 (by decide)]
            have w1 : WfC u2 := eqC.wf (σ := σ) (fun F hF => h2 F (by omega)) hwf
            refine z_iload_n (pc' := 45) X dX1_follow_44 rfl 0 rfl rfl ?_
            refine z_aload_n (pc' := 46) X dX1_follow_45 rfl 2 rfl rfl ?_
            refine z_get (pc' := 49) (C := RX3) (ref := "PivotBeats$Piece") (T := TX3) (N := 9) (v := .int (jI (u2 4 0))) X dX1_follow_46 rfl hin3 1 rfl rfl 3 (by decide) (by decide +kernel) rfl rfl ?_
            refine z_icmp_ge (tgt := 70) (pc' := 52) X dX1_follow_49 (by decide) rfl (by omega) (fun h49 => ?_) (fun h49 => ?_)
            · exact z_vret (post := (fun (uu : St) => (∀ F, (F < 10 ∨ 14 < F) → uu F = σ F) ∧ JI uu)) X dX1_follow_70 hret u2 (⟨h2, fw_end h2 (by omega) h3 h4⟩)
            · refine z_aload_n (pc' := 53) X dX1_follow_52 rfl 1 rfl rfl ?_
              refine z_get (pc' := 56) (C := RX1) (ref := "PivotBeats$Joins") (T := TX1) (N := 5) (v := .ref (q 14)) X dX1_follow_53 rfl hin1 2 rfl rfl 4 (by decide) (by decide +kernel) rfl rfl ?_
              refine z_iload_n (pc' := 57) X dX1_follow_56 rfl 0 rfl rfl ?_
              refine z_aload_n (pc' := 58) X dX1_follow_57 rfl 1 rfl rfl ?_
              refine z_aload_n (pc' := 59) X dX1_follow_58 rfl 2 rfl rfl ?_
              refine z_iload_n (pc' := 60) X dX1_follow_59 rfl 0 rfl rfl ?_
              refine z_callVI (pc' := 63) (S := St) (As := [.ref (q 36), .int (jI k)]) (rest := [.int (jI k), .ref (q 14)]) X dX1_follow_60 rfl (kX1_judge l D E q u2 k  (w1) (by omega) (by rw [show u2 5 = σ 5 from h2 5 (by omega), show u2 6 = σ 6 from h2 6 (by omega), show u2 7 = σ 7 from h2 7 (by omega), show u2 8 = σ 8 from h2 8 (by omega)]; exact h3)) (cwV 2 X.1.2.2.2.2 gX1_follow_X1_judge rfl rfl rfl (by decide +kernel) ⟨Nat.le_of_ble_eq_true rfl, Nat.le_of_ble_eq_true rfl⟩) 2 rfl rfl rfl rfl (Nat.le_of_ble_eq_true rfl) (fun r60 u60 hp60 => ?_)
              obtain ⟨er60, hn60, hj60⟩ := hp60
              refine z_iast (pc' := 64) (f := u60 14) (n := 12) (w' := CW E q (up u60 14 k r60)) X dX1_follow_63 rfl 17 rfl (by decide) (by omega) rfl ?_
              refine z_iinc (pc' := 67) (lv' := [(2, .int (jI (k + 1))), (0, .ref (q 37)), (1, .ref (q 36))]) X dX1_follow_64 rfl 0 rfl (by decide) rfl ?_
              refine z_goto (tgt := 44) X dX1_follow_67 (by decide) ?_
              exact ih44 (k + 1) (up u60 14 k r60)  (⟨by omega, fun F hF => by rw [← h2 F hF, ← hn60 F (by omega)]; funext i; exact up_f _ _ _ _ (by omega), fw_b h2 hj60 (by omega), fw_c h2 h4 hn60 er60⟩) (by omega)
        exact lp44 _ 0 u1  (⟨by omega, fun F hF => h2 F (by omega), fun s s0 s1 => by have := h3 s s0 (by omega); exact this, fun j j0 j1 => by omega⟩) (Nat.lt_succ_self _)
      · refine z_aload_n (pc' := 9) X dX1_follow_8 rfl 1 rfl rfl ?_
        refine z_get (pc' := 12) (C := RX1) (ref := "PivotBeats$Joins") (T := TX1) (N := 5) (v := .ref (q 10)) X dX1_follow_9 rfl hin1 2 rfl rfl 0 (by decide) (by decide +kernel) rfl rfl ?_
        refine z_iload_n (pc' := 13) X dX1_follow_12 rfl 0 rfl rfl ?_
        refine z_iload_n (pc' := 14) X dX1_follow_13 rfl 0 rfl rfl ?_
        refine z_iast (pc' := 15) (f := u1 10) (n := 7) (w' := CW E q (up u1 10 x x)) X dX1_follow_14 rfl 13 rfl (by decide) (by omega) rfl ?_
        refine z_aload_n (pc' := 16) X dX1_follow_15 rfl 1 rfl rfl ?_
        refine z_get (pc' := 19) (C := RX1) (ref := "PivotBeats$Joins") (T := TX1) (N := 5) (v := .ref (q 11)) X dX1_follow_16 rfl hin1 2 rfl rfl 1 (by decide) (by decide +kernel) rfl rfl ?_
        refine z_iload_n (pc' := 20) X dX1_follow_19 rfl 0 rfl rfl ?_
        refine z_iconst (pc' := 21) X dX1_follow_20 rfl ?_
        refine z_iast (pc' := 22) (f := u1 11) (n := 7) (w' := CW E q (up (up u1 10 x x) 11 x 0)) X dX1_follow_21 rfl 14 rfl (by decide) (by omega) rfl ?_
        refine z_aload_n (pc' := 23) X dX1_follow_22 rfl 1 rfl rfl ?_
        refine z_get (pc' := 26) (C := RX1) (ref := "PivotBeats$Joins") (T := TX1) (N := 5) (v := .ref (q 12)) X dX1_follow_23 rfl hin1 2 rfl rfl 2 (by decide) (by decide +kernel) rfl rfl ?_
        refine z_iload_n (pc' := 27) X dX1_follow_26 rfl 0 rfl rfl ?_
        refine z_iconst (pc' := 28) X dX1_follow_27 rfl ?_
        refine z_iast (pc' := 29) (f := u1 12) (n := 7) (w' := CW E q (up (up (up u1 10 x x) 11 x 0) 12 x 0)) X dX1_follow_28 rfl 15 rfl (by decide) (by omega) rfl ?_
        refine z_aload_n (pc' := 30) X dX1_follow_29 rfl 1 rfl rfl ?_
        refine z_get (pc' := 33) (C := RX1) (ref := "PivotBeats$Joins") (T := TX1) (N := 5) (v := .ref (q 13)) X dX1_follow_30 rfl hin1 2 rfl rfl 3 (by decide) (by decide +kernel) rfl rfl ?_
        refine z_iload_n (pc' := 34) X dX1_follow_33 rfl 0 rfl rfl ?_
        refine z_iconst (pc' := 35) X dX1_follow_34 rfl ?_
        refine z_iast (pc' := 36) (f := u1 13) (n := 7) (w' := CW E q (up (up (up (up u1 10 x x) 11 x 0) 12 x 0) 13 x 0)) X dX1_follow_35 rfl 16 rfl (by decide) (by omega) rfl ?_
        refine z_iinc (pc' := 39) (lv' := [(2, .int (jI (x + 1))), (0, .ref (q 37)), (1, .ref (q 36))]) X dX1_follow_36 rfl 0 rfl (by decide) rfl ?_
        refine z_goto (tgt := 2) X dX1_follow_39 (by decide) ?_
        exact ih2 (x + 1) (up (up (up (up u1 10 x x) 11 x 0) 12 x 0) 13 x 0)  (⟨by omega, fun F hF => by rw [← h2 F hF]; funext i; rw [up_f _ _ _ _ (by omega), up_f _ _ _ _ (by omega), up_f _ _ _ _ (by omega), up_f _ _ _ _ (by omega)], fw_a h3⟩) (by omega)
  exact lp2 _ 0 σ  (⟨by omega, fun _ _ => rfl, fun s s0 s1 => by omega⟩) (Nat.lt_succ_self _)
set_option maxHeartbeats 4000000 in
set_option maxRecDepth 100000 in
theorem kX1_sizeOfSet (l : Launch) (D : va_G) (E : Nat → Nat) (q : Nat → Nat) (σ : St) (s_ sections : Int) (hr : (0 ≤ s_ ∧ s_ < 7) ∧ (0 ≤ sections ∧ sections ≤ 7)) (h10 : ∀ s, 0 ≤ s → s < 7 → 0 ≤ σ 10 s ∧ σ 10 s < 7) : CtI l D E yX1_sizeOfSet wsX1_sizeOfSet ({ frames := 0, cells := 0, slots := 0, locals := 0 } : Room) [.ref (q 37), .int (jI s_), .int (jI sections)] (CW E q σ) (CW E q) (fun (rv : Int) (uu : St) => σ = uu ∧ rv = smI (fun o => if σ 10 o = σ 10 s_ then 1 else 0) sections.toNat) := by
  refine mk_I (cc := cX1_sizeOfSet) (maxL := 5) (ret := some .int) (by decide) rfl (Nat.le_of_ble_eq_true rfl) ?_
  intro p e s m args below meth c A X hret
  have hin1 : ∀ x ∈ u_ws RX1 TX1 5, x ∈ wsX1_sizeOfSet := fun _ h => List.mem_cons_of_mem _ (List.mem_append_right _ h)
  refine z_lv (lv' := [(0, .ref (q 37)), (1, .int (jI s_)), (2, .int (jI sections))]) [0, 1, 2] rfl ?_
  have hs := h10 s_ hr.1.1 hr.1.2
  refine z_iconst (pc' := 1) X dX1_sizeOfSet_0 rfl ?_
  refine z_istore_n (pc' := 2) (lv' := [(3, .int (jI 0)), (0, .ref (q 37)), (1, .int (jI s_)), (2, .int (jI sections))]) X dX1_sizeOfSet_1 rfl rfl (by decide) rfl ?_
  refine z_iconst (pc' := 3) X dX1_sizeOfSet_2 rfl ?_
  refine z_istore (pc' := 5) (lv' := [(4, .int (jI 0)), (3, .int (jI 0)), (0, .ref (q 37)), (1, .int (jI s_)), (2, .int (jI sections))]) X dX1_sizeOfSet_3 rfl (by decide) rfl ?_
  have lp5 : ∀ (nF : Nat) (k : Int) (n_ : Int) , ((0 ≤ k ∧ k ≤ sections) ∧ n_ = smI (fun o => if σ 10 o = σ 10 s_ then 1 else 0) k.toNat ∧ (0 ≤ n_ ∧ n_ ≤ k)) → ((7 - k).toNat : Nat) < nF → J p l e (headSpec wsX1_sizeOfSet ({ frames := 0, cells := 0, slots := 0, locals := 0 } : Room)).room s m args below meth c D A 5 (MQ below (va_Qi (fun r u => ∃ x, r = jI x ∧ (fun (rv : Int) (uu : St) => σ = uu ∧ rv = smI (fun o => if σ 10 o = σ 10 s_ then 1 else 0) sections.toNat) x u) (Bw D (CW E q) A) A) args s 0 0 A) 5 [(4, .int (jI k)), (3, .int (jI n_)), (0, .ref (q 37)), (1, .int (jI s_)), (2, .int (jI sections))] [] (CW E q σ) := by
    intro nF
    induction nF with
    | zero => intro k n_  hI hn; exact absurd hn (Nat.not_lt_zero _)
    | succ nF ih5 =>
      intro k n_  hI hn
      obtain ⟨h1, h2, h3⟩ := hI
      refine z_iload (pc' := 7) X dX1_sizeOfSet_5 rfl 0 rfl ?_
      refine z_iload_n (pc' := 8) X dX1_sizeOfSet_7 rfl 4 rfl rfl ?_
      refine z_icmp_ge (tgt := 43) (pc' := 11) X dX1_sizeOfSet_8 (by decide) rfl (by omega) (fun h8 => ?_) (fun h8 => ?_)
      · refine z_iload_n (pc' := 44) X dX1_sizeOfSet_43 rfl 1 rfl rfl ?_
        exact z_iret (post := (fun (rv : Int) (uu : St) => σ = uu ∧ rv = smI (fun o => if σ 10 o = σ 10 s_ then 1 else 0) sections.toNat)) X dX1_sizeOfSet_44 hret σ (⟨rfl, by rw [h2, show k = sections by omega]⟩)
      · refine z_iload (pc' := 13) X dX1_sizeOfSet_11 rfl 0 rfl ?_
        refine z_bipush (pc' := 15) X dX1_sizeOfSet_13 rfl rfl ?_
        refine z_icmp_ge (tgt := 43) (pc' := 18) X dX1_sizeOfSet_15 (by decide) rfl (by omega) (fun h15 => by exfalso; omega) (fun h15 => ?_)
        have hk := h10 k (by omega) (by omega)
        refine z_aload_n (pc' := 19) X dX1_sizeOfSet_18 rfl 2 rfl rfl ?_
        refine z_get (pc' := 22) (C := RX1) (ref := "PivotBeats$Joins") (T := TX1) (N := 5) (v := .ref (q 10)) X dX1_sizeOfSet_19 rfl hin1 2 rfl rfl 0 (by decide) (by decide +kernel) rfl rfl ?_
        refine z_iload (pc' := 24) X dX1_sizeOfSet_22 rfl 0 rfl ?_
        refine z_iald (pc' := 25) (f := σ 10) (n := 7) X dX1_sizeOfSet_24 rfl 13 rfl (by decide) (by omega) ?_
        refine z_aload_n (pc' := 26) X dX1_sizeOfSet_25 rfl 2 rfl rfl ?_
        refine z_get (pc' := 29) (C := RX1) (ref := "PivotBeats$Joins") (T := TX1) (N := 5) (v := .ref (q 10)) X dX1_sizeOfSet_26 rfl hin1 2 rfl rfl 0 (by decide) (by decide +kernel) rfl rfl ?_
        refine z_iload_n (pc' := 30) X dX1_sizeOfSet_29 rfl 3 rfl rfl ?_
        refine z_iald (pc' := 31) (f := σ 10) (n := 7) X dX1_sizeOfSet_30 rfl 13 rfl (by decide) (by omega) ?_
        refine z_icmp_ne (tgt := 37) (pc' := 34) X dX1_sizeOfSet_31 (by decide) rfl (by omega) (fun h31 => ?_) (fun h31 => ?_)
        · refine z_iinc (pc' := 40) (lv' := [(4, .int (jI (k + 1))), (3, .int (jI n_)), (0, .ref (q 37)), (1, .int (jI s_)), (2, .int (jI sections))]) X dX1_sizeOfSet_37 rfl 0 rfl (by decide) rfl ?_
          refine z_goto (tgt := 5) X dX1_sizeOfSet_40 (by decide) ?_
          exact ih5 (k + 1) n_  (⟨by omega, by rw [smI_succ _ h1.1, ← h2]; first | (rw [if_pos h31]; done) | (rw [if_neg h31, Int.add_zero]; done), by omega⟩) (by omega)
        · refine z_iinc (pc' := 37) (lv' := [(3, .int (jI (n_ + 1))), (4, .int (jI k)), (0, .ref (q 37)), (1, .int (jI s_)), (2, .int (jI sections))]) X dX1_sizeOfSet_34 rfl 1 rfl (by decide) rfl ?_
          refine z_iinc (pc' := 40) (lv' := [(4, .int (jI (k + 1))), (3, .int (jI (n_ + 1))), (0, .ref (q 37)), (1, .int (jI s_)), (2, .int (jI sections))]) X dX1_sizeOfSet_37 rfl 1 rfl (by decide) rfl ?_
          refine z_goto (tgt := 5) X dX1_sizeOfSet_40 (by decide) ?_
          exact ih5 (k + 1) (n_ + 1)  (⟨by omega, by rw [smI_succ _ h1.1, ← h2]; first | (rw [if_pos h31]; done) | (rw [if_neg h31, Int.add_zero]; done), by omega⟩) (by omega)
  exact lp5 _ 0 0  (⟨by omega, rfl, by omega⟩) (Nat.lt_succ_self _)
set_option maxHeartbeats 4000000 in
set_option maxRecDepth 100000 in
theorem kX1_countOf (l : Launch) (D : va_G) (E : Nat → Nat) (q : Nat → Nat) (σ : St) (kind ties : Int) (hr : (0 ≤ kind ∧ kind ≤ 2) ∧ (0 ≤ ties ∧ ties ≤ 12)) (h14 : ∀ k, 0 ≤ k → k < ties → 0 ≤ σ 14 k ∧ σ 14 k ≤ 2) : CtI l D E yX1_countOf wsX1_countOf ({ frames := 0, cells := 0, slots := 0, locals := 0 } : Room) [.ref (q 37), .int (jI kind), .int (jI ties)] (CW E q σ) (CW E q) (fun (rv : Int) (uu : St) => σ = uu ∧ (rv = smI (fun k => if σ 14 k = kind then 1 else 0) ties.toNat ∧ (0 ≤ rv ∧ rv ≤ ties))) := by
  refine mk_I (cc := cX1_countOf) (maxL := 5) (ret := some .int) (by decide) rfl (Nat.le_of_ble_eq_true rfl) ?_
  intro p e s m args below meth c A X hret
  have hin1 : ∀ x ∈ u_ws RX1 TX1 5, x ∈ wsX1_countOf := fun _ h => List.mem_cons_of_mem _ (List.mem_append_right _ h)
  refine z_lv (lv' := [(0, .ref (q 37)), (1, .int (jI kind)), (2, .int (jI ties))]) [0, 1, 2] rfl ?_
  refine z_iconst (pc' := 1) X dX1_countOf_0 rfl ?_
  refine z_istore_n (pc' := 2) (lv' := [(3, .int (jI 0)), (0, .ref (q 37)), (1, .int (jI kind)), (2, .int (jI ties))]) X dX1_countOf_1 rfl rfl (by decide) rfl ?_
  refine z_iconst (pc' := 3) X dX1_countOf_2 rfl ?_
  refine z_istore (pc' := 5) (lv' := [(4, .int (jI 0)), (3, .int (jI 0)), (0, .ref (q 37)), (1, .int (jI kind)), (2, .int (jI ties))]) X dX1_countOf_3 rfl (by decide) rfl ?_
  have lp5 : ∀ (nF : Nat) (k : Int) (n_ : Int) , ((0 ≤ k ∧ k ≤ ties) ∧ n_ = smI (fun k => if σ 14 k = kind then 1 else 0) k.toNat ∧ (0 ≤ n_ ∧ n_ ≤ k)) → ((12 - k).toNat : Nat) < nF → J p l e (headSpec wsX1_countOf ({ frames := 0, cells := 0, slots := 0, locals := 0 } : Room)).room s m args below meth c D A 5 (MQ below (va_Qi (fun r u => ∃ x, r = jI x ∧ (fun (rv : Int) (uu : St) => σ = uu ∧ (rv = smI (fun k => if σ 14 k = kind then 1 else 0) ties.toNat ∧ (0 ≤ rv ∧ rv ≤ ties))) x u) (Bw D (CW E q) A) A) args s 0 0 A) 5 [(4, .int (jI k)), (3, .int (jI n_)), (0, .ref (q 37)), (1, .int (jI kind)), (2, .int (jI ties))] [] (CW E q σ) := by
    intro nF
    induction nF with
    | zero => intro k n_  hI hn; exact absurd hn (Nat.not_lt_zero _)
    | succ nF ih5 =>
      intro k n_  hI hn
      obtain ⟨h1, h2, h3⟩ := hI
      refine z_iload (pc' := 7) X dX1_countOf_5 rfl 0 rfl ?_
      refine z_iload_n (pc' := 8) X dX1_countOf_7 rfl 4 rfl rfl ?_
      refine z_icmp_ge (tgt := 38) (pc' := 11) X dX1_countOf_8 (by decide) rfl (by omega) (fun h8 => ?_) (fun h8 => ?_)
      · refine z_iload_n (pc' := 39) X dX1_countOf_38 rfl 1 rfl rfl ?_
        exact z_iret (post := (fun (rv : Int) (uu : St) => σ = uu ∧ (rv = smI (fun k => if σ 14 k = kind then 1 else 0) ties.toNat ∧ (0 ≤ rv ∧ rv ≤ ties)))) X dX1_countOf_39 hret σ (⟨rfl, by rw [h2, show k = ties by omega], by omega⟩)
      · refine z_iload (pc' := 13) X dX1_countOf_11 rfl 0 rfl ?_
        refine z_bipush (pc' := 15) X dX1_countOf_13 rfl rfl ?_
        refine z_icmp_ge (tgt := 38) (pc' := 18) X dX1_countOf_15 (by decide) rfl (by omega) (fun h15 => by exfalso; omega) (fun h15 => ?_)
        have hk := h14 k (by omega) (by omega)
        refine z_aload_n (pc' := 19) X dX1_countOf_18 rfl 2 rfl rfl ?_
        refine z_get (pc' := 22) (C := RX1) (ref := "PivotBeats$Joins") (T := TX1) (N := 5) (v := .ref (q 14)) X dX1_countOf_19 rfl hin1 2 rfl rfl 4 (by decide) (by decide +kernel) rfl rfl ?_
        refine z_iload (pc' := 24) X dX1_countOf_22 rfl 0 rfl ?_
        refine z_iald (pc' := 25) (f := σ 14) (n := 12) X dX1_countOf_24 rfl 17 rfl (by decide) (by omega) ?_
        refine z_iload_n (pc' := 26) X dX1_countOf_25 rfl 3 rfl rfl ?_
        refine z_icmp_ne (tgt := 32) (pc' := 29) X dX1_countOf_26 (by decide) rfl (by omega) (fun h26 => ?_) (fun h26 => ?_)
        · refine z_iinc (pc' := 35) (lv' := [(4, .int (jI (k + 1))), (3, .int (jI n_)), (0, .ref (q 37)), (1, .int (jI kind)), (2, .int (jI ties))]) X dX1_countOf_32 rfl 0 rfl (by decide) rfl ?_
          refine z_goto (tgt := 5) X dX1_countOf_35 (by decide) ?_
          exact ih5 (k + 1) n_  (⟨by omega, by rw [smI_succ _ h1.1, ← h2]; first | (rw [if_pos h26]; done) | (rw [if_neg h26, Int.add_zero]; done), by omega⟩) (by omega)
        · refine z_iinc (pc' := 32) (lv' := [(3, .int (jI (n_ + 1))), (4, .int (jI k)), (0, .ref (q 37)), (1, .int (jI kind)), (2, .int (jI ties))]) X dX1_countOf_29 rfl 1 rfl (by decide) rfl ?_
          refine z_iinc (pc' := 35) (lv' := [(4, .int (jI (k + 1))), (3, .int (jI (n_ + 1))), (0, .ref (q 37)), (1, .int (jI kind)), (2, .int (jI ties))]) X dX1_countOf_32 rfl 1 rfl (by decide) rfl ?_
          refine z_goto (tgt := 5) X dX1_countOf_35 (by decide) ?_
          exact ih5 (k + 1) (n_ + 1)  (⟨by omega, by rw [smI_succ _ h1.1, ← h2]; first | (rw [if_pos h26]; done) | (rw [if_neg h26, Int.add_zero]; done), by omega⟩) (by omega)
  exact lp5 _ 0 0  (⟨by omega, rfl, by omega⟩) (Nat.lt_succ_self _)
set_option maxHeartbeats 4000000 in
set_option maxRecDepth 100000 in
theorem kX2_indexOf (l : Launch) (D : va_G) (E : Nat → Nat) (q : Nat → Nat) (σ : St) (m_ : Int) (hwf : WfC σ) (hr : (-2147483648 ≤ m_ ∧ m_ < 2147483648)) : CtI l D E yX2_indexOf wsX2_indexOf ({ frames := 0, cells := 0, slots := 0, locals := 0 } : Room) [.ref (q 38), .int (jI m_)] (CW E q σ) (CW E q) (fun (rv : Int) (uu : St) => σ = uu ∧ rv = ixF (σ 15) m_ (σ 16 0).toNat) := by
  refine mk_I (cc := cX2_indexOf) (maxL := 3) (ret := some .int) (by decide) rfl (Nat.le_of_ble_eq_true rfl) ?_
  intro p e s m args below meth c A X hret
  have hin2 : ∀ x ∈ u_ws RX2 TX2 2, x ∈ wsX2_indexOf := fun _ h => List.mem_cons_of_mem _ (List.mem_append_right _ h)
  refine z_lv (lv' := [(0, .ref (q 38)), (1, .int (jI m_))]) [0, 1] rfl ?_
  obtain ⟨n1, n0, n4, n16⟩ := hwf.n
  refine z_iconst (pc' := 1) X dX2_indexOf_0 rfl ?_
  refine z_istore_n (pc' := 2) (lv' := [(2, .int (jI 0)), (0, .ref (q 38)), (1, .int (jI m_))]) X dX2_indexOf_1 rfl rfl (by decide) rfl ?_
  have lp2 : ∀ (nF : Nat) (k : Int) , ((0 ≤ k ∧ k ≤ σ 16 0) ∧ ∀ j, 0 ≤ j → j < k → ¬ σ 15 j = m_) → ((16 - k).toNat : Nat) < nF → J p l e (headSpec wsX2_indexOf ({ frames := 0, cells := 0, slots := 0, locals := 0 } : Room)).room s m args below meth c D A 3 (MQ below (va_Qi (fun r u => ∃ x, r = jI x ∧ (fun (rv : Int) (uu : St) => σ = uu ∧ rv = ixF (σ 15) m_ (σ 16 0).toNat) x u) (Bw D (CW E q) A) A) args s 0 0 A) 2 [(2, .int (jI k)), (0, .ref (q 38)), (1, .int (jI m_))] [] (CW E q σ) := by
    intro nF
    induction nF with
    | zero => intro k  hI hn; exact absurd hn (Nat.not_lt_zero _)
    | succ nF ih2 =>
      intro k  hI hn
      obtain ⟨h1, h2⟩ := hI
      refine z_iload_n (pc' := 3) X dX2_indexOf_2 rfl 0 rfl rfl ?_
      refine z_aload_n (pc' := 4) X dX2_indexOf_3 rfl 1 rfl rfl ?_
      refine z_get (pc' := 7) (C := RX2) (ref := "PivotBeats$Metronome") (T := TX2) (N := 2) (v := .int (jI (σ 16 0))) X dX2_indexOf_4 rfl hin2 3 rfl rfl 1 (by decide) (by decide +kernel) rfl rfl ?_
      refine z_icmp_ge (tgt := 28) (pc' := 10) X dX2_indexOf_7 (by decide) rfl (by omega) (fun h7 => ?_) (fun h7 => ?_)
      · refine z_bipush (pc' := 30) X dX2_indexOf_28 rfl rfl ?_
        exact z_iret (post := (fun (rv : Int) (uu : St) => σ = uu ∧ rv = ixF (σ 15) m_ (σ 16 0).toNat)) X dX2_indexOf_30 hret σ (⟨rfl, (ixF_no _ (fun j j0 j1 => h2 j j0 (by omega))).symm⟩)
      · have hm := hwf.mk (k := k) (by omega) (by omega)
        refine z_aload_n (pc' := 11) X dX2_indexOf_10 rfl 1 rfl rfl ?_
        refine z_get (pc' := 14) (C := RX2) (ref := "PivotBeats$Metronome") (T := TX2) (N := 2) (v := .ref (q 15)) X dX2_indexOf_11 rfl hin2 3 rfl rfl 0 (by decide) (by decide +kernel) rfl rfl ?_
        refine z_iload_n (pc' := 15) X dX2_indexOf_14 rfl 0 rfl rfl ?_
        refine z_iald (pc' := 16) (f := σ 15) (n := 16) X dX2_indexOf_15 rfl 18 rfl (by decide) (by omega) ?_
        refine z_iload_n (pc' := 17) X dX2_indexOf_16 rfl 2 rfl rfl ?_
        refine z_icmp_ne (tgt := 22) (pc' := 20) X dX2_indexOf_17 (by decide) rfl (by omega) (fun h17 => ?_) (fun h17 => ?_)
        · refine z_iinc (pc' := 25) (lv' := [(2, .int (jI (k + 1))), (0, .ref (q 38)), (1, .int (jI m_))]) X dX2_indexOf_22 rfl 0 rfl (by decide) rfl ?_
          refine z_goto (tgt := 2) X dX2_indexOf_25 (by decide) ?_
          exact ih2 (k + 1)  (⟨by omega, fun j j0 j1 => pl_step h2 h17 j j0 j1⟩) (by omega)
        · refine z_iload_n (pc' := 21) X dX2_indexOf_20 rfl 0 rfl rfl ?_
          exact z_iret (post := (fun (rv : Int) (uu : St) => σ = uu ∧ rv = ixF (σ 15) m_ (σ 16 0).toNat)) X dX2_indexOf_21 hret σ (⟨rfl, (ixF_is (by omega) (by omega) h17 h2).symm⟩)
  exact lp2 _ 0  (⟨by omega, fun j h1 h2 => by omega⟩) (Nat.lt_succ_self _)
set_option maxHeartbeats 4000000 in
set_option maxRecDepth 100000 in
theorem kX2_has (l : Launch) (D : va_G) (E : Nat → Nat) (q : Nat → Nat) (σ : St) (m_ : Int) (hwf : WfC σ) (hr : (-2147483648 ≤ m_ ∧ m_ < 2147483648)) : CtI l D E yX2_has wsX2_has ({ frames := 1, cells := 0, slots := 0, locals := 22 } : Room) [.ref (q 38), .int (jI m_)] (CW E q σ) (CW E q) (fun (rv : Int) (uu : St) => σ = uu ∧ ((rv = 1 ∧ (¬ ixF (σ 15) m_ (σ 16 0).toNat = -9)) ∨ (rv = 0 ∧ ¬ (¬ ixF (σ 15) m_ (σ 16 0).toNat = -9)))) := by
  refine mk_I (cc := cX2_has) (maxL := 2) (ret := some .boolean) (by decide) rfl (Nat.le_of_ble_eq_true rfl) ?_
  intro p e s m args below meth c A X hret
  have hin2 : ∀ x ∈ u_ws RX2 TX2 2, x ∈ wsX2_has := fun _ h => List.mem_cons_of_mem _ (List.mem_append_right _ h)
  refine z_lv (lv' := [(0, .ref (q 38)), (1, .int (jI m_))]) [0, 1] rfl ?_
  obtain ⟨n1, n0, n4, n16⟩ := hwf.n
  have hi := ixF_cases (σ 15) m_ (σ 16 0).toNat
  refine z_aload_n (pc' := 1) X dX2_has_0 rfl 0 rfl rfl ?_
  refine z_iload_n (pc' := 2) X dX2_has_1 rfl 1 rfl rfl ?_
  refine z_callVI (pc' := 5) (S := St) (As := [.int (jI m_)]) (rest := []) X dX2_has_2 rfl (kX2_indexOf l D E q σ m_  (by omega) (by omega)) (cwV 1 X.1.2.2.2.2 gX2_has_X2_indexOf rfl rfl rfl (by decide +kernel) ⟨Nat.le_of_ble_eq_true rfl, Nat.le_of_ble_eq_true rfl⟩) 3 rfl rfl rfl rfl (Nat.le_of_ble_eq_true rfl) (fun r2 u2 hp2 => ?_)
  obtain ⟨rfl, hp2⟩ := hp2; replace hp2 := hp2.symm; subst hp2
  refine z_bipush (pc' := 7) X dX2_has_5 rfl rfl ?_
  refine z_icmp_eq (tgt := 14) (pc' := 10) X dX2_has_7 (by decide) rfl (by (rcases hi with q | q <;> omega)) (fun h7 => ?_) (fun h7 => ?_)
  · refine z_iconst (pc' := 15) X dX2_has_14 rfl ?_
    exact z_zret (post := (fun (rv : Int) (uu : St) => σ = uu ∧ ((rv = 1 ∧ (¬ ixF (σ 15) m_ (σ 16 0).toNat = -9)) ∨ (rv = 0 ∧ ¬ (¬ ixF (σ 15) m_ (σ 16 0).toNat = -9))))) X dX2_has_15 hret σ (by first | decide | omega) (⟨rfl, Or.inr ⟨rfl, by omega⟩⟩)
  · refine z_iconst (pc' := 11) X dX2_has_10 rfl ?_
    refine z_goto (tgt := 15) X dX2_has_11 (by decide) ?_
    exact z_zret (post := (fun (rv : Int) (uu : St) => σ = uu ∧ ((rv = 1 ∧ (¬ ixF (σ 15) m_ (σ 16 0).toNat = -9)) ∨ (rv = 0 ∧ ¬ (¬ ixF (σ 15) m_ (σ 16 0).toNat = -9))))) X dX2_has_15 hret σ (by first | decide | omega) (⟨rfl, Or.inl ⟨rfl, by omega⟩⟩)
set_option maxHeartbeats 4000000 in
set_option maxRecDepth 100000 in
theorem kX2_put (l : Launch) (D : va_G) (E : Nat → Nat) (q : Nat → Nat) (σ : St) (m_ : Int) (hwf : WfC σ) (hr : (20 ≤ m_ ∧ m_ ≤ 400) ∧ σ 16 0 < 16) : CtV l D E yX2_put wsX2_put ({ frames := 0, cells := 0, slots := 0, locals := 0 } : Room) [.ref (q 38), .int (jI m_)] (CW E q σ) (CW E q) (fun (uu : St) => (∀ F, F ≠ 15 → F ≠ 16 → uu F = σ F) ∧ uu 16 0 = σ 16 0 + 1 ∧ uu 15 = insM (σ 15) m_ (σ 16 0)) := by
  refine mk_V (cc := cX2_put) (maxL := 3) (ret := none) (by decide) rfl (Nat.le_of_ble_eq_true rfl) ?_
  intro p e s m args below meth c A X hret
  have hin2 : ∀ x ∈ u_ws RX2 TX2 2, x ∈ wsX2_put := fun _ h => List.mem_cons_of_mem _ (List.mem_append_right _ h)
  refine z_lv (lv' := [(0, .ref (q 38)), (1, .int (jI m_))]) [0, 1] rfl ?_
  obtain ⟨n1, n0, n4, n16⟩ := hwf.n
  refine z_aload_n (pc' := 1) X dX2_put_0 rfl 0 rfl rfl ?_
  refine z_get (pc' := 4) (C := RX2) (ref := "PivotBeats$Metronome") (T := TX2) (N := 2) (v := .int (jI (σ 16 0))) X dX2_put_1 rfl hin2 3 rfl rfl 1 (by decide) (by decide +kernel) rfl rfl ?_
  refine z_bipush (pc' := 6) X dX2_put_4 rfl rfl ?_
  refine z_icmp_lt (tgt := 10) (pc' := 9) X dX2_put_6 (by decide) rfl (by omega) (fun h6 => ?_) (fun h6 => by exfalso; omega)
  refine z_aload_n (pc' := 11) X dX2_put_10 rfl 0 rfl rfl ?_
  refine z_get (pc' := 14) (C := RX2) (ref := "PivotBeats$Metronome") (T := TX2) (N := 2) (v := .int (jI (σ 16 0))) X dX2_put_11 rfl hin2 3 rfl rfl 1 (by decide) (by decide +kernel) rfl rfl ?_
  refine z_istore_n (pc' := 15) (lv' := [(2, .int (jI (σ 16 0))), (0, .ref (q 38)), (1, .int (jI m_))]) X dX2_put_14 rfl rfl (by decide) rfl ?_
  have lp15 : ∀ (nF : Nat) (k : Int) (u1 : St) , ((0 ≤ k ∧ k ≤ σ 16 0) ∧ (∀ F, F ≠ 15 → u1 F = σ F) ∧ (∀ i, u1 15 i = if k < i ∧ i ≤ σ 16 0 then σ 15 (i - 1) else σ 15 i) ∧ (∀ i, k ≤ i → i < σ 16 0 → m_ < σ 15 i)) → (k.toNat : Nat) < nF → J p l e (headSpec wsX2_put ({ frames := 0, cells := 0, slots := 0, locals := 0 } : Room)).room s m args below meth c D A 3 (MQ below (va_Qv (fun (uu : St) => (∀ F, F ≠ 15 → F ≠ 16 → uu F = σ F) ∧ uu 16 0 = σ 16 0 + 1 ∧ uu 15 = insM (σ 15) m_ (σ 16 0)) (Bw D (CW E q) A) A) args s 0 0 A) 15 [(2, .int (jI k)), (0, .ref (q 38)), (1, .int (jI m_))] [] (CW E q u1) := by
    intro nF
    induction nF with
    | zero => intro k u1  hI hn; exact absurd hn (Nat.not_lt_zero _)
    | succ nF ih15 =>
      intro k u1  hI hn
      obtain ⟨h1, h2, h3, h4⟩ := hI
      refine z_iload_n (pc' := 16) X dX2_put_15 rfl 0 rfl rfl ?_
      refine z_if_le (tgt := 51) (pc' := 19) X dX2_put_16 (by decide) rfl (by omega) (fun h16 => ?_) (fun h16 => ?_)
      · refine z_aload_n (pc' := 52) X dX2_put_51 rfl 1 rfl rfl ?_
        refine z_get (pc' := 55) (C := RX2) (ref := "PivotBeats$Metronome") (T := TX2) (N := 2) (v := .ref (q 15)) X dX2_put_52 rfl hin2 3 rfl rfl 0 (by decide) (by decide +kernel) rfl rfl ?_
        refine z_iload_n (pc' := 56) X dX2_put_55 rfl 0 rfl rfl ?_
        refine z_iload_n (pc' := 57) X dX2_put_56 rfl 2 rfl rfl ?_
        refine z_iast (pc' := 58) (f := u1 15) (n := 16) (w' := CW E q (up u1 15 k m_)) X dX2_put_57 rfl 18 rfl (by decide) (by omega) rfl ?_
        refine z_aload_n (pc' := 59) X dX2_put_58 rfl 1 rfl rfl ?_
        refine z_dup (pc' := 60) X dX2_put_59 rfl rfl ?_
        refine z_get (pc' := 63) (C := RX2) (ref := "PivotBeats$Metronome") (T := TX2) (N := 2) (v := .int (jI (u1 16 0))) X dX2_put_60 rfl hin2 3 rfl rfl 1 (by decide) (by decide +kernel) rfl rfl ?_
        refine z_iconst (pc' := 64) X dX2_put_63 rfl ?_
        refine z_iadd (pc' := 65) X dX2_put_64 rfl ?_
        refine z_put (pc' := 68) (C := RX2) (ref := "PivotBeats$Metronome") (T := TX2) (N := 2) (ty := .int) (w' := CW E q (up (up u1 15 k m_) 16 0 ((u1 16 0) + 1))) X dX2_put_65 rfl hin2 tyX2 tyX2_ok nmX2 3 rfl rfl 1 (by decide) (by decide +kernel) rfl rfl (by decide +kernel) rfl rfl (Nat.le_of_ble_eq_true rfl) rfl ?_
        exact z_vret (post := (fun (uu : St) => (∀ F, F ≠ 15 → F ≠ 16 → uu F = σ F) ∧ uu 16 0 = σ 16 0 + 1 ∧ uu 15 = insM (σ 15) m_ (σ 16 0))) X dX2_put_68 hret (up (up u1 15 k m_) 16 0 ((u1 16 0) + 1)) (⟨fun F h15 h16 => by rw [← h2 F h15]; funext i; rw [up_f _ _ _ _ h16, up_f _ _ _ _ h15], by rw [up_s]; show u1 16 0 + 1 = _; rw [h2 16 (by decide)], tm_endG h1 h3 h4 (by first | exact Or.inl (by omega) | exact Or.inr (by rw [← e1]; exact h28))⟩)
      · have e1 : u1 15 (k - 1) = σ 15 (k - 1) := by rw [h3, if_neg (by omega)]
        have hb := hwf.mk (k := k - 1) (by omega) (by omega)
        refine z_aload_n (pc' := 20) X dX2_put_19 rfl 1 rfl rfl ?_
        refine z_get (pc' := 23) (C := RX2) (ref := "PivotBeats$Metronome") (T := TX2) (N := 2) (v := .ref (q 15)) X dX2_put_20 rfl hin2 3 rfl rfl 0 (by decide) (by decide +kernel) rfl rfl ?_
        refine z_iload_n (pc' := 24) X dX2_put_23 rfl 0 rfl rfl ?_
        refine z_iconst (pc' := 25) X dX2_put_24 rfl ?_
        refine z_isub (pc' := 26) X dX2_put_25 rfl ?_
        refine z_iald (pc' := 27) (f := u1 15) (n := 16) X dX2_put_26 rfl 18 rfl (by decide) (by omega) ?_
        refine z_iload_n (pc' := 28) X dX2_put_27 rfl 2 rfl rfl ?_
        refine z_icmp_le (tgt := 51) (pc' := 31) X dX2_put_28 (by decide) rfl (by (rw [e1]; omega)) (fun h28 => ?_) (fun h28 => ?_)
        · refine z_aload_n (pc' := 52) X dX2_put_51 rfl 1 rfl rfl ?_
          refine z_get (pc' := 55) (C := RX2) (ref := "PivotBeats$Metronome") (T := TX2) (N := 2) (v := .ref (q 15)) X dX2_put_52 rfl hin2 3 rfl rfl 0 (by decide) (by decide +kernel) rfl rfl ?_
          refine z_iload_n (pc' := 56) X dX2_put_55 rfl 0 rfl rfl ?_
          refine z_iload_n (pc' := 57) X dX2_put_56 rfl 2 rfl rfl ?_
          refine z_iast (pc' := 58) (f := u1 15) (n := 16) (w' := CW E q (up u1 15 k m_)) X dX2_put_57 rfl 18 rfl (by decide) (by omega) rfl ?_
          refine z_aload_n (pc' := 59) X dX2_put_58 rfl 1 rfl rfl ?_
          refine z_dup (pc' := 60) X dX2_put_59 rfl rfl ?_
          refine z_get (pc' := 63) (C := RX2) (ref := "PivotBeats$Metronome") (T := TX2) (N := 2) (v := .int (jI (u1 16 0))) X dX2_put_60 rfl hin2 3 rfl rfl 1 (by decide) (by decide +kernel) rfl rfl ?_
          refine z_iconst (pc' := 64) X dX2_put_63 rfl ?_
          refine z_iadd (pc' := 65) X dX2_put_64 rfl ?_
          refine z_put (pc' := 68) (C := RX2) (ref := "PivotBeats$Metronome") (T := TX2) (N := 2) (ty := .int) (w' := CW E q (up (up u1 15 k m_) 16 0 ((u1 16 0) + 1))) X dX2_put_65 rfl hin2 tyX2 tyX2_ok nmX2 3 rfl rfl 1 (by decide) (by decide +kernel) rfl rfl (by decide +kernel) rfl rfl (Nat.le_of_ble_eq_true rfl) rfl ?_
          exact z_vret (post := (fun (uu : St) => (∀ F, F ≠ 15 → F ≠ 16 → uu F = σ F) ∧ uu 16 0 = σ 16 0 + 1 ∧ uu 15 = insM (σ 15) m_ (σ 16 0))) X dX2_put_68 hret (up (up u1 15 k m_) 16 0 ((u1 16 0) + 1)) (⟨fun F h15 h16 => by rw [← h2 F h15]; funext i; rw [up_f _ _ _ _ h16, up_f _ _ _ _ h15], by rw [up_s]; show u1 16 0 + 1 = _; rw [h2 16 (by decide)], tm_endG h1 h3 h4 (by first | exact Or.inl (by omega) | exact Or.inr (by rw [← e1]; exact h28))⟩)
        · refine z_aload_n (pc' := 32) X dX2_put_31 rfl 1 rfl rfl ?_
          refine z_get (pc' := 35) (C := RX2) (ref := "PivotBeats$Metronome") (T := TX2) (N := 2) (v := .ref (q 15)) X dX2_put_32 rfl hin2 3 rfl rfl 0 (by decide) (by decide +kernel) rfl rfl ?_
          refine z_iload_n (pc' := 36) X dX2_put_35 rfl 0 rfl rfl ?_
          refine z_aload_n (pc' := 37) X dX2_put_36 rfl 1 rfl rfl ?_
          refine z_get (pc' := 40) (C := RX2) (ref := "PivotBeats$Metronome") (T := TX2) (N := 2) (v := .ref (q 15)) X dX2_put_37 rfl hin2 3 rfl rfl 0 (by decide) (by decide +kernel) rfl rfl ?_
          refine z_iload_n (pc' := 41) X dX2_put_40 rfl 0 rfl rfl ?_
          refine z_iconst (pc' := 42) X dX2_put_41 rfl ?_
          refine z_isub (pc' := 43) X dX2_put_42 rfl ?_
          refine z_iald (pc' := 44) (f := u1 15) (n := 16) X dX2_put_43 rfl 18 rfl (by decide) (by omega) ?_
          refine z_iast (pc' := 45) (f := u1 15) (n := 16) (w' := CW E q (up u1 15 k (u1 15 (k - 1)))) X dX2_put_44 rfl 18 rfl (by decide) (by omega) rfl ?_
          refine z_iinc (pc' := 48) (lv' := [(2, .int (jI (k + (-1)))), (0, .ref (q 38)), (1, .int (jI m_))]) X dX2_put_45 rfl 0 rfl (by decide) rfl ?_
          refine z_goto (tgt := 15) X dX2_put_48 (by decide) ?_
          exact ih15 (k + (-1)) (up u1 15 k (u1 15 (k - 1)))  (⟨by omega, fun F hF => by rw [← h2 F hF]; funext i; exact up_f _ _ _ _ hF, tm_stepG 15 h1 h3 (by omega), tm_g h4 (by omega)⟩) (by omega)
  exact lp15 _ (σ 16 0) σ  (⟨by omega, fun _ _ => rfl, fun i => by rw [if_neg (by omega)], fun i h1 h2 => by omega⟩) (Nat.lt_succ_self _)
set_option maxHeartbeats 4000000 in
set_option maxRecDepth 100000 in
theorem kX2_take (l : Launch) (D : va_G) (E : Nat → Nat) (q : Nat → Nat) (σ : St) (m_ : Int) (hwf : WfC σ) (hr : (-2147483648 ≤ m_ ∧ m_ < 2147483648)) (hx : ¬ ixF (σ 15) m_ (σ 16 0).toNat = -9) : CtV l D E yX2_take wsX2_take ({ frames := 1, cells := 0, slots := 0, locals := 22 } : Room) [.ref (q 38), .int (jI m_)] (CW E q σ) (CW E q) (fun (uu : St) => (∀ F, F ≠ 15 → F ≠ 16 → uu F = σ F) ∧ uu 16 0 = σ 16 0 - 1 ∧ uu 15 = delM (σ 15) (ixF (σ 15) m_ (σ 16 0).toNat) (σ 16 0)) := by
  refine mk_V (cc := cX2_take) (maxL := 4) (ret := none) (by decide) rfl (Nat.le_of_ble_eq_true rfl) ?_
  intro p e s m args below meth c A X hret
  have hin2 : ∀ x ∈ u_ws RX2 TX2 2, x ∈ wsX2_take := fun _ h => List.mem_cons_of_mem _ (List.mem_append_right _ h)
  refine z_lv (lv' := [(0, .ref (q 38)), (1, .int (jI m_))]) [0, 1] rfl ?_
  obtain ⟨n1, n0, n4, n16⟩ := hwf.n
  have hi := ixF_cases (σ 15) m_ (σ 16 0).toNat
  have hi2 : 0 ≤ ixF (σ 15) m_ (σ 16 0).toNat ∧ ixF (σ 15) m_ (σ 16 0).toNat < σ 16 0 := by rcases hi with q | q <;> omega
  clear hi
  refine z_aload_n (pc' := 1) X dX2_take_0 rfl 0 rfl rfl ?_
  refine z_iload_n (pc' := 2) X dX2_take_1 rfl 1 rfl rfl ?_
  refine z_callVI (pc' := 5) (S := St) (As := [.int (jI m_)]) (rest := []) X dX2_take_2 rfl (kX2_indexOf l D E q σ m_  (by omega) (by omega)) (cwV 1 X.1.2.2.2.2 gX2_take_X2_indexOf rfl rfl rfl (by decide +kernel) ⟨Nat.le_of_ble_eq_true rfl, Nat.le_of_ble_eq_true rfl⟩) 3 rfl rfl rfl rfl (Nat.le_of_ble_eq_true rfl) (fun r2 u2 hp2 => ?_)
  obtain ⟨rfl, hp2⟩ := hp2; replace hp2 := hp2.symm; subst hp2
  refine z_istore_n (pc' := 6) (lv' := [(2, .int (jI (ixF (σ 15) m_ (σ 16 0).toNat))), (0, .ref (q 38)), (1, .int (jI m_))]) X dX2_take_5 rfl rfl (by decide) rfl ?_
  refine z_iload_n (pc' := 7) X dX2_take_6 rfl 0 rfl rfl ?_
  refine z_bipush (pc' := 9) X dX2_take_7 rfl rfl ?_
  refine z_icmp_ne (tgt := 13) (pc' := 12) X dX2_take_9 (by decide) rfl (by omega) (fun h9 => ?_) (fun h9 => by exfalso; omega)
  refine z_iload_n (pc' := 14) X dX2_take_13 rfl 0 rfl rfl ?_
  refine z_istore_n (pc' := 15) (lv' := [(3, .int (jI (ixF (σ 15) m_ (σ 16 0).toNat))), (2, .int (jI (ixF (σ 15) m_ (σ 16 0).toNat))), (0, .ref (q 38)), (1, .int (jI m_))]) X dX2_take_14 rfl rfl (by decide) rfl ?_
  have lp15 : ∀ (nF : Nat) (k : Int) (u1 : St) , ((ixF (σ 15) m_ (σ 16 0).toNat ≤ k ∧ k ≤ σ 16 0 - 1) ∧ (∀ F, F ≠ 15 → u1 F = σ F) ∧ (∀ i, u1 15 i = if ixF (σ 15) m_ (σ 16 0).toNat ≤ i ∧ i < k then σ 15 (i + 1) else σ 15 i)) → ((16 - k).toNat : Nat) < nF → J p l e (headSpec wsX2_take ({ frames := 1, cells := 0, slots := 0, locals := 22 } : Room)).room s m args below meth c D A 4 (MQ below (va_Qv (fun (uu : St) => (∀ F, F ≠ 15 → F ≠ 16 → uu F = σ F) ∧ uu 16 0 = σ 16 0 - 1 ∧ uu 15 = delM (σ 15) (ixF (σ 15) m_ (σ 16 0).toNat) (σ 16 0)) (Bw D (CW E q) A) A) args s 0 0 A) 15 [(3, .int (jI k)), (2, .int (jI (ixF (σ 15) m_ (σ 16 0).toNat))), (0, .ref (q 38)), (1, .int (jI m_))] [] (CW E q u1) := by
    intro nF
    induction nF with
    | zero => intro k u1  hI hn; exact absurd hn (Nat.not_lt_zero _)
    | succ nF ih15 =>
      intro k u1  hI hn
      obtain ⟨h1, h2, h4⟩ := hI
      have e16 : u1 16 0 = σ 16 0 := by rw [h2 16 (by decide)]
      refine z_iload_n (pc' := 16) X dX2_take_15 rfl 0 rfl rfl ?_
      refine z_iconst (pc' := 17) X dX2_take_16 rfl ?_
      refine z_iadd (pc' := 18) X dX2_take_17 rfl ?_
      refine z_aload_n (pc' := 19) X dX2_take_18 rfl 2 rfl rfl ?_
      refine z_get (pc' := 22) (C := RX2) (ref := "PivotBeats$Metronome") (T := TX2) (N := 2) (v := .int (jI (u1 16 0))) X dX2_take_19 rfl hin2 3 rfl rfl 1 (by decide) (by decide +kernel) rfl rfl ?_
      refine z_icmp_ge (tgt := 45) (pc' := 25) X dX2_take_22 (by decide) rfl (by omega) (fun h22 => ?_) (fun h22 => ?_)
      · refine z_aload_n (pc' := 46) X dX2_take_45 rfl 2 rfl rfl ?_
        refine z_dup (pc' := 47) X dX2_take_46 rfl rfl ?_
        refine z_get (pc' := 50) (C := RX2) (ref := "PivotBeats$Metronome") (T := TX2) (N := 2) (v := .int (jI (u1 16 0))) X dX2_take_47 rfl hin2 3 rfl rfl 1 (by decide) (by decide +kernel) rfl rfl ?_
        refine z_iconst (pc' := 51) X dX2_take_50 rfl ?_
        refine z_isub (pc' := 52) X dX2_take_51 rfl ?_
        refine z_put (pc' := 55) (C := RX2) (ref := "PivotBeats$Metronome") (T := TX2) (N := 2) (ty := .int) (w' := CW E q (up u1 16 0 ((u1 16 0) - 1))) X dX2_take_52 rfl hin2 tyX2 tyX2_ok nmX2 3 rfl rfl 1 (by decide) (by decide +kernel) rfl rfl (by decide +kernel) rfl rfl (Nat.le_of_ble_eq_true rfl) rfl ?_
        exact z_vret (post := (fun (uu : St) => (∀ F, F ≠ 15 → F ≠ 16 → uu F = σ F) ∧ uu 16 0 = σ 16 0 - 1 ∧ uu 15 = delM (σ 15) (ixF (σ 15) m_ (σ 16 0).toNat) (σ 16 0))) X dX2_take_55 hret (up u1 16 0 ((u1 16 0) - 1)) (⟨fun F a1 a2 => by rw [← h2 F a1]; funext i; exact up_f _ _ _ _ a2, by rw [up_s, e16], by funext i; show u1 15 i = _; rw [h4 i]; unfold delM; rw [show k = σ 16 0 - 1 by omega]⟩)
      · refine z_aload_n (pc' := 26) X dX2_take_25 rfl 2 rfl rfl ?_
        refine z_get (pc' := 29) (C := RX2) (ref := "PivotBeats$Metronome") (T := TX2) (N := 2) (v := .ref (q 15)) X dX2_take_26 rfl hin2 3 rfl rfl 0 (by decide) (by decide +kernel) rfl rfl ?_
        refine z_iload_n (pc' := 30) X dX2_take_29 rfl 0 rfl rfl ?_
        refine z_aload_n (pc' := 31) X dX2_take_30 rfl 2 rfl rfl ?_
        refine z_get (pc' := 34) (C := RX2) (ref := "PivotBeats$Metronome") (T := TX2) (N := 2) (v := .ref (q 15)) X dX2_take_31 rfl hin2 3 rfl rfl 0 (by decide) (by decide +kernel) rfl rfl ?_
        refine z_iload_n (pc' := 35) X dX2_take_34 rfl 0 rfl rfl ?_
        refine z_iconst (pc' := 36) X dX2_take_35 rfl ?_
        refine z_iadd (pc' := 37) X dX2_take_36 rfl ?_
        refine z_iald (pc' := 38) (f := u1 15) (n := 16) X dX2_take_37 rfl 18 rfl (by decide) (by omega) ?_
        refine z_iast (pc' := 39) (f := u1 15) (n := 16) (w' := CW E q (up u1 15 k (u1 15 (k + 1)))) X dX2_take_38 rfl 18 rfl (by decide) (by omega) rfl ?_
        refine z_iinc (pc' := 42) (lv' := [(3, .int (jI (k + 1))), (2, .int (jI (ixF (σ 15) m_ (σ 16 0).toNat))), (0, .ref (q 38)), (1, .int (jI m_))]) X dX2_take_39 rfl 0 rfl (by decide) rfl ?_
        refine z_goto (tgt := 15) X dX2_take_42 (by decide) ?_
        exact ih15 (k + 1) (up u1 15 k (u1 15 (k + 1)))  (⟨by omega, fun F a1 => by rw [← h2 F a1]; funext i; exact up_f _ _ _ _ a1, lo_stepG 15 h1.1 h4⟩) (by omega)
  exact lp15 _ (ixF (σ 15) m_ (σ 16 0).toNat) σ  (⟨by omega, fun F _ => rfl, fun i => by rw [if_neg (by omega)]⟩) (Nat.lt_succ_self _)
set_option maxHeartbeats 4000000 in
set_option maxRecDepth 100000 in
theorem kX2_nearestTo (l : Launch) (D : va_G) (E : Nat → Nat) (q : Nat → Nat) (σ : St) (U L : Int) (hwf : WfC σ) (hr : (0 ≤ U ∧ U ≤ 27487790694400) ∧ (0 ≤ L ∧ L ≤ 68719476736)) : CtI l D E yX2_nearestTo wsX2_nearestTo ({ frames := 1, cells := 0, slots := 0, locals := 40 } : Room) [.ref (q 38), .long (jL U), .long (jL L)] (CW E q σ) (CW E q) (fun (rv : Int) (uu : St) => σ = uu ∧ rv = (if nrI (fun k => ((U - σ 15 k * L).natAbs : Int)) (σ 16 0).toNat = -9 then -9 else σ 15 (nrI (fun k => ((U - σ 15 k * L).natAbs : Int)) (σ 16 0).toNat))) := by
  refine mk_I (cc := cX2_nearestTo) (maxL := 11) (ret := some .int) (by decide) rfl (Nat.le_of_ble_eq_true rfl) ?_
  intro p e s m args below meth c A X hret
  have hin2 : ∀ x ∈ u_ws RX2 TX2 2, x ∈ wsX2_nearestTo := fun _ h => List.mem_cons_of_mem _ (List.mem_append_right _ h)
  refine z_lv (lv' := [(0, .ref (q 38)), (1, .long (jL U)), (3, .long (jL L))]) [0, 1, 2] rfl ?_
  obtain ⟨n1, n0, n4, n16⟩ := hwf.n
  refine z_bipush (pc' := 2) X dX2_nearestTo_0 rfl rfl ?_
  refine z_istore (pc' := 4) (lv' := [(5, .int (jI (-9))), (0, .ref (q 38)), (1, .long (jL U)), (3, .long (jL L))]) X dX2_nearestTo_2 rfl (by decide) rfl ?_
  refine z_lconst (pc' := 5) (x := 0) X dX2_nearestTo_4 rfl rfl ?_
  refine z_lstore (pc' := 7) (lv' := [(6, .long (jL 0)), (5, .int (jI (-9))), (0, .ref (q 38)), (1, .long (jL U)), (3, .long (jL L))]) X dX2_nearestTo_5 rfl (by decide) rfl ?_
  refine z_iconst (pc' := 8) X dX2_nearestTo_7 rfl ?_
  refine z_istore (pc' := 10) (lv' := [(8, .int (jI 0)), (6, .long (jL 0)), (5, .int (jI (-9))), (0, .ref (q 38)), (1, .long (jL U)), (3, .long (jL L))]) X dX2_nearestTo_8 rfl (by decide) rfl ?_
  have lp10 : ∀ (nF : Nat) (k : Int) (least : Int) (best : Int) , ((0 ≤ k ∧ k ≤ σ 16 0) ∧ NR (σ 15) U L k.toNat best least ∧ (-9 ≤ best ∧ best ≤ 400) ∧ (0 ≤ least ∧ least ≤ 27487790694400 + 27487790694400)) → ((16 - k).toNat : Nat) < nF → J p l e (headSpec wsX2_nearestTo ({ frames := 1, cells := 0, slots := 0, locals := 40 } : Room)).room s m args below meth c D A 11 (MQ below (va_Qi (fun r u => ∃ x, r = jI x ∧ (fun (rv : Int) (uu : St) => σ = uu ∧ rv = (if nrI (fun k => ((U - σ 15 k * L).natAbs : Int)) (σ 16 0).toNat = -9 then -9 else σ 15 (nrI (fun k => ((U - σ 15 k * L).natAbs : Int)) (σ 16 0).toNat))) x u) (Bw D (CW E q) A) A) args s 0 0 A) 10 [(8, .int (jI k)), (6, .long (jL least)), (5, .int (jI best)), (0, .ref (q 38)), (1, .long (jL U)), (3, .long (jL L))] [] (CW E q σ) := by
    intro nF
    induction nF with
    | zero => intro k least best  hI hn; exact absurd hn (Nat.not_lt_zero _)
    | succ nF ih10 =>
      intro k least best  hI hn
      obtain ⟨h1, h3, h4, h5⟩ := hI
      refine z_iload (pc' := 12) X dX2_nearestTo_10 rfl 0 rfl ?_
      refine z_aload_n (pc' := 13) X dX2_nearestTo_12 rfl 3 rfl rfl ?_
      refine z_get (pc' := 16) (C := RX2) (ref := "PivotBeats$Metronome") (T := TX2) (N := 2) (v := .int (jI (σ 16 0))) X dX2_nearestTo_13 rfl hin2 3 rfl rfl 1 (by decide) (by decide +kernel) rfl rfl ?_
      refine z_icmp_ge (tgt := 70) (pc' := 19) X dX2_nearestTo_16 (by decide) rfl (by omega) (fun h16 => ?_) (fun h16 => ?_)
      · refine z_iload (pc' := 72) X dX2_nearestTo_70 rfl 2 rfl ?_
        exact z_iret (post := (fun (rv : Int) (uu : St) => σ = uu ∧ rv = (if nrI (fun k => ((U - σ 15 k * L).natAbs : Int)) (σ 16 0).toNat = -9 then -9 else σ 15 (nrI (fun k => ((U - σ 15 k * L).natAbs : Int)) (σ 16 0).toNat)))) X dX2_nearestTo_72 hret σ (⟨rfl, NR_end hwf.mk (show k = σ 16 0 by omega) n16.1 h3⟩)
      · have hk := hwf.mk (k := k) (by omega) (by omega)
        have hpk := mul_bd (a := σ 15 k) (b := L) (A := 400) (B := 68719476736) (by omega) (by omega)
        refine z_lload_n (pc' := 20) X dX2_nearestTo_19 rfl 4 rfl rfl ?_
        refine z_aload_n (pc' := 21) X dX2_nearestTo_20 rfl 3 rfl rfl ?_
        refine z_get (pc' := 24) (C := RX2) (ref := "PivotBeats$Metronome") (T := TX2) (N := 2) (v := .ref (q 15)) X dX2_nearestTo_21 rfl hin2 3 rfl rfl 0 (by decide) (by decide +kernel) rfl rfl ?_
        refine z_iload (pc' := 26) X dX2_nearestTo_24 rfl 0 rfl ?_
        refine z_iald (pc' := 27) (f := σ 15) (n := 16) X dX2_nearestTo_26 rfl 18 rfl (by decide) (by omega) ?_
        refine z_i2l (pc' := 28) X dX2_nearestTo_27 rfl (by omega) ?_
        refine z_lload_n (pc' := 29) X dX2_nearestTo_28 rfl 5 rfl rfl ?_
        refine z_lmul (pc' := 30) X dX2_nearestTo_29 rfl ?_
        refine z_lsub (pc' := 31) X dX2_nearestTo_30 rfl ?_
        refine z_absL (pc' := 34) X dX2_nearestTo_31 rfl (by decide +kernel) (by decide +kernel) (by decide +kernel) (by decide +kernel) ⟨Nat.le_of_ble_eq_true rfl, Nat.le_of_ble_eq_true rfl⟩ (by omega) ?_
        refine z_lstore (pc' := 36) (lv' := [(9, .long (jL ((U - ((σ 15 k) * L)).natAbs : Int))), (8, .int (jI k)), (6, .long (jL least)), (5, .int (jI best)), (0, .ref (q 38)), (1, .long (jL U)), (3, .long (jL L))]) X dX2_nearestTo_34 rfl (by decide) rfl ?_
        refine z_iload (pc' := 38) X dX2_nearestTo_36 rfl 3 rfl ?_
        refine z_bipush (pc' := 40) X dX2_nearestTo_38 rfl rfl ?_
        refine z_icmp_eq (tgt := 51) (pc' := 43) X dX2_nearestTo_40 (by decide) rfl (by omega) (fun h40 => ?_) (fun h40 => ?_)
        · refine z_aload_n (pc' := 52) X dX2_nearestTo_51 rfl 4 rfl rfl ?_
          refine z_get (pc' := 55) (C := RX2) (ref := "PivotBeats$Metronome") (T := TX2) (N := 2) (v := .ref (q 15)) X dX2_nearestTo_52 rfl hin2 3 rfl rfl 0 (by decide) (by decide +kernel) rfl rfl ?_
          refine z_iload (pc' := 57) X dX2_nearestTo_55 rfl 1 rfl ?_
          refine z_iald (pc' := 58) (f := σ 15) (n := 16) X dX2_nearestTo_57 rfl 18 rfl (by decide) (by omega) ?_
          refine z_istore (pc' := 60) (lv' := [(5, .int (jI (σ 15 k))), (9, .long (jL ((U - ((σ 15 k) * L)).natAbs : Int))), (8, .int (jI k)), (6, .long (jL least)), (0, .ref (q 38)), (1, .long (jL U)), (3, .long (jL L))]) X dX2_nearestTo_58 rfl (by decide) rfl ?_
          refine z_lload (pc' := 62) X dX2_nearestTo_60 rfl 1 rfl ?_
          refine z_lstore (pc' := 64) (lv' := [(6, .long (jL ((U - ((σ 15 k) * L)).natAbs : Int))), (5, .int (jI (σ 15 k))), (9, .long (jL ((U - ((σ 15 k) * L)).natAbs : Int))), (8, .int (jI k)), (0, .ref (q 38)), (1, .long (jL U)), (3, .long (jL L))]) X dX2_nearestTo_62 rfl (by decide) rfl ?_
          refine z_iinc (pc' := 67) (lv' := [(8, .int (jI (k + 1))), (6, .long (jL ((U - ((σ 15 k) * L)).natAbs : Int))), (5, .int (jI (σ 15 k))), (9, .long (jL ((U - ((σ 15 k) * L)).natAbs : Int))), (0, .ref (q 38)), (1, .long (jL U)), (3, .long (jL L))]) X dX2_nearestTo_64 rfl 3 rfl (by decide) rfl ?_
          refine z_goto (tgt := 10) X dX2_nearestTo_67 (by decide) ?_
          refine z_lv (lv' := [(8, .int (jI (k + 1))), (6, .long (jL ((U - ((σ 15 k) * L)).natAbs : Int))), (5, .int (jI (σ 15 k))), (0, .ref (q 38)), (1, .long (jL U)), (3, .long (jL L))]) [0, 1, 2, 4, 5, 6] rfl ?_
          exact ih10 (k + 1) ((U - ((σ 15 k) * L)).natAbs : Int) (σ 15 k)  (by first | exact ⟨by omega, NR_a h1.1 hk.1 h3 h40, by omega, by omega⟩ | exact ⟨by omega, NR_b h1.1 h3 h40 h47, by omega, by omega⟩ | exact ⟨by omega, NR_c h1.1 h3 h40 (by omega), by omega, by omega⟩) (by omega)
        · refine z_lload (pc' := 45) X dX2_nearestTo_43 rfl 0 rfl ?_
          refine z_lload (pc' := 47) X dX2_nearestTo_45 rfl 2 rfl ?_
          refine z_lcmp_ge (tgt := 64) (pc' := 51) X dX2_nearestTo_47 (pc1 := 48) rfl dX2_nearestTo_48 (by decide) rfl (by omega) (fun h47 => ?_) (fun h47 => ?_)
          · refine z_iinc (pc' := 67) (lv' := [(8, .int (jI (k + 1))), (9, .long (jL ((U - ((σ 15 k) * L)).natAbs : Int))), (6, .long (jL least)), (5, .int (jI best)), (0, .ref (q 38)), (1, .long (jL U)), (3, .long (jL L))]) X dX2_nearestTo_64 rfl 1 rfl (by decide) rfl ?_
            refine z_goto (tgt := 10) X dX2_nearestTo_67 (by decide) ?_
            refine z_lv (lv' := [(8, .int (jI (k + 1))), (6, .long (jL least)), (5, .int (jI best)), (0, .ref (q 38)), (1, .long (jL U)), (3, .long (jL L))]) [0, 2, 3, 4, 5, 6] rfl ?_
            exact ih10 (k + 1) least best  (by first | exact ⟨by omega, NR_a h1.1 hk.1 h3 h40, by omega, by omega⟩ | exact ⟨by omega, NR_b h1.1 h3 h40 h47, by omega, by omega⟩ | exact ⟨by omega, NR_c h1.1 h3 h40 (by omega), by omega, by omega⟩) (by omega)
          · refine z_aload_n (pc' := 52) X dX2_nearestTo_51 rfl 4 rfl rfl ?_
            refine z_get (pc' := 55) (C := RX2) (ref := "PivotBeats$Metronome") (T := TX2) (N := 2) (v := .ref (q 15)) X dX2_nearestTo_52 rfl hin2 3 rfl rfl 0 (by decide) (by decide +kernel) rfl rfl ?_
            refine z_iload (pc' := 57) X dX2_nearestTo_55 rfl 1 rfl ?_
            refine z_iald (pc' := 58) (f := σ 15) (n := 16) X dX2_nearestTo_57 rfl 18 rfl (by decide) (by omega) ?_
            refine z_istore (pc' := 60) (lv' := [(5, .int (jI (σ 15 k))), (9, .long (jL ((U - ((σ 15 k) * L)).natAbs : Int))), (8, .int (jI k)), (6, .long (jL least)), (0, .ref (q 38)), (1, .long (jL U)), (3, .long (jL L))]) X dX2_nearestTo_58 rfl (by decide) rfl ?_
            refine z_lload (pc' := 62) X dX2_nearestTo_60 rfl 1 rfl ?_
            refine z_lstore (pc' := 64) (lv' := [(6, .long (jL ((U - ((σ 15 k) * L)).natAbs : Int))), (5, .int (jI (σ 15 k))), (9, .long (jL ((U - ((σ 15 k) * L)).natAbs : Int))), (8, .int (jI k)), (0, .ref (q 38)), (1, .long (jL U)), (3, .long (jL L))]) X dX2_nearestTo_62 rfl (by decide) rfl ?_
            refine z_iinc (pc' := 67) (lv' := [(8, .int (jI (k + 1))), (6, .long (jL ((U - ((σ 15 k) * L)).natAbs : Int))), (5, .int (jI (σ 15 k))), (9, .long (jL ((U - ((σ 15 k) * L)).natAbs : Int))), (0, .ref (q 38)), (1, .long (jL U)), (3, .long (jL L))]) X dX2_nearestTo_64 rfl 3 rfl (by decide) rfl ?_
            refine z_goto (tgt := 10) X dX2_nearestTo_67 (by decide) ?_
            refine z_lv (lv' := [(8, .int (jI (k + 1))), (6, .long (jL ((U - ((σ 15 k) * L)).natAbs : Int))), (5, .int (jI (σ 15 k))), (0, .ref (q 38)), (1, .long (jL U)), (3, .long (jL L))]) [0, 1, 2, 4, 5, 6] rfl ?_
            exact ih10 (k + 1) ((U - ((σ 15 k) * L)).natAbs : Int) (σ 15 k)  (by first | exact ⟨by omega, NR_a h1.1 hk.1 h3 h40, by omega, by omega⟩ | exact ⟨by omega, NR_b h1.1 h3 h40 h47, by omega, by omega⟩ | exact ⟨by omega, NR_c h1.1 h3 h40 (by omega), by omega, by omega⟩) (by omega)
  exact lp10 _ 0 0 (-9)  (⟨by omega, Or.inl ⟨rfl, rfl⟩, by omega, by omega⟩) (Nat.lt_succ_self _)
