theorem red_gq {p q : Int} (hp : 20 ≤ p ∧ p ≤ 400) (hq : 20 ≤ q ∧ q ≤ 400) : (1 ≤ q / gcdI p q ∧ q / gcdI p q ≤ 400) ∧ (1 ≤ p / gcdI p q ∧ p / gcdI p q ≤ 400) ∧ p = p / gcdI p q * gcdI p q ∧ q = q / gcdI p q * gcdI p q := by
  have := red_g (u := p) (l := q) (by omega) (by omega)
  omega
theorem tin_bd {v : Int} (h : 1 ≤ v ∧ v ≤ 400) : (0 ≤ tin 2 v ∧ tin 2 v ≤ 8) ∧ (0 ≤ tin 3 v ∧ tin 3 v ≤ 5) := by
  obtain ⟨n, rfl, hn⟩ : ∃ n : Nat, v = n ∧ n < 401 := ⟨v.toNat, by omega, by omega⟩
  have key : ∀ n : Nat, n < 401 → 1 ≤ n → (0 ≤ tin 2 (n : Int) ∧ tin 2 (n : Int) ≤ 8) ∧ (0 ≤ tin 3 (n : Int) ∧ tin 3 (n : Int) ≤ 5) := by decide +kernel
  exact key n hn (by omega)
theorem pU_bd9 {X Y : Int} (hX : X ≤ 8) (hY : Y ≤ 5) : 0 ≤ pU X Y ∧ pU X Y ≤ 62208 := by
  obtain ⟨a1, a2⟩ := pow_le2 (n := X.toNat) (k := 8) (by omega)
  obtain ⟨b1, b2⟩ := pow_le3 (n := Y.toNat) (k := 5) (by omega)
  have e1 : (2 : Int) ^ 8 = 256 := by decide
  have e2 : (3 : Int) ^ 5 = 243 := by decide
  have := mul_bd (a := (2 : Int) ^ X.toNat) (b := (3 : Int) ^ Y.toNat) (A := 256) (B := 243) (by omega) (by omega)
  unfold pU
  omega
theorem tin_pw {a b : Nat} (ha : a < 9) (hb : b < 6) : tin 2 (((2 ^ a * 3 ^ b : Nat)) : Int) = a ∧ tin 3 (((2 ^ a * 3 ^ b : Nat)) : Int) = b := by
  have key : ∀ a : Nat, a < 9 → ∀ b : Nat, b < 6 → tin 2 (((2 ^ a * 3 ^ b : Nat)) : Int) = a ∧ tin 3 (((2 ^ a * 3 ^ b : Nat)) : Int) = b := by decide +kernel
  exact key a ha b hb
theorem fs_TG {p q X Y : Int} (rg : (1 ≤ q / gcdI p q ∧ q / gcdI p q ≤ 400) ∧ (1 ≤ p / gcdI p q ∧ p / gcdI p q ≤ 400) ∧ p = p / gcdI p q * gcdI p q ∧ q = q / gcdI p q * gcdI p q) (h1 : q / gcdI p q = 2 ^ X.toNat * 3 ^ Y.toNat) (h2 : p / gcdI p q = 2 ^ (-X).toNat * 3 ^ (-Y).toNat) : TG p q X Y := by
  obtain ⟨-, -, e1, e2⟩ := rg
  unfold TG
  have z1 : pU X Y = q / gcdI p q := h1.symm
  have z2 : pU (-X) (-Y) = p / gcdI p q := h2.symm
  rw [z1, z2]
  generalize q / gcdI p q = a at *
  generalize p / gcdI p q = b at *
  generalize gcdI p q = g at *
  rw [e1, e2]
  simp only [Int.mul_assoc, Int.mul_comm, Int.mul_left_comm]
theorem fs_no {p q X Y : Int} (hp : 20 ≤ p ∧ p ≤ 400) (hq : 20 ≤ q ∧ q ≤ 400) (hT : TG p q X Y) (rg : (1 ≤ q / gcdI p q ∧ q / gcdI p q ≤ 400) ∧ (1 ≤ p / gcdI p q ∧ p / gcdI p q ≤ 400) ∧ p = p / gcdI p q * gcdI p q ∧ q = q / gcdI p q * gcdI p q) : q / gcdI p q = 2 ^ (tin 2 (q / gcdI p q) - tin 2 (p / gcdI p q)).toNat * 3 ^ (tin 3 (q / gcdI p q) - tin 3 (p / gcdI p q)).toNat ∧ p / gcdI p q = 2 ^ (-(tin 2 (q / gcdI p q) - tin 2 (p / gcdI p q))).toNat * 3 ^ (-(tin 3 (q / gcdI p q) - tin 3 (p / gcdI p q))).toNat := by
  obtain ⟨r1, r2⟩ := TG_red hp hq hT
  obtain ⟨b1, b2, -⟩ := TG_rng hp hq hT
  have e1 := tin_pw (a := X.toNat) (b := Y.toNat) (by omega) (by omega)
  have e2 := tin_pw (a := (-X).toNat) (b := (-Y).toNat) (by omega) (by omega)
  have z1 : q / gcdI p q = (((2 ^ X.toNat * 3 ^ Y.toNat : Nat)) : Int) := by rw [r1, pU_N]; rfl
  have z2 : p / gcdI p q = (((2 ^ (-X).toNat * 3 ^ (-Y).toNat : Nat)) : Int) := by rw [r2, pU_N]; rfl
  rw [← z1] at e1
  rw [← z2] at e2
  rw [e1.1, e1.2, e2.1, e2.2, show ((X.toNat : Nat) : Int) - (((-X).toNat : Nat) : Int) = X by omega, show ((Y.toNat : Nat) : Int) - (((-Y).toNat : Nat) : Int) = Y by omega]
  exact ⟨r1, r2⟩
theorem sm_rng {p set st : Int} {σ u : St} (h : SM1 p set st σ u) (hg : ∀ i, 0 ≤ i → i < 1281 → -9 ≤ σ 17 i ∧ σ 17 i ≤ 5) (hs : 0 ≤ st ∧ st ≤ 4) {i : Int} (i0 : 0 ≤ i) (i1 : i < 1281) : -9 ≤ u 17 i ∧ u 17 i ≤ 5 := by
  have := hg i i0 i1
  rcases h i i0 i1 with q | q
  · omega
  · omega
theorem sm_row {p set st x y : Int} {σ u : St} (h : SM2 p set st σ u x y) (hy : 400 ≤ y) : SM2 p set st σ u (x + 1) 0 := by
  intro j c a1 a2 a3 a4 a5
  exact h j c a1 a2 a3 a4 (by omega)
theorem sm_rown {p set st x y : Int} {σ u : St} (h1 : SM1 p set st σ u) (h : SM2 p set st σ u x y) (hx : 0 ≤ x ∧ x < 1281) (hn : ¬ u 17 x = st) (hst : 0 ≤ st) : SM2 p set st σ u (x + 1) 0 := by
  intro j c a1 a2 a3 a4 a5 a6
  by_cases q : j = x
  · exfalso
    rw [q] at a6
    rcases h1 x hx.1 hx.2 with r | r
    · omega
    · omega
  · exact h j c a1 a2 a3 a4 (by omega) a6
theorem sm_no {p set st x y : Int} {σ u : St} (h : SM2 p set st σ u x y) (hn : σ 17 x = st → stp set y → inB p (x / 21 - 30 + dX y) (x % 21 - 10 + dY y) → ¬ u 17 (sIx (x / 21 - 30 + dX y) (x % 21 - 10 + dY y)) = -9) : SM2 p set st σ u x (y + 1) := by
  intro j c a1 a2 a3 a4 a5 a6 a7 a8
  by_cases q : j = x ∧ c = y
  · obtain ⟨rfl, rfl⟩ := q
    exact hn a6 a7 a8
  · exact h j c a1 a2 a3 a4 (by omega) a6 a7 a8
theorem sm_st1 {p set st x y : Int} {σ u : St} (h : SM1 p set st σ u) (hx : 0 ≤ x ∧ x < 1281) (hy : 0 ≤ y ∧ y < 400) (hs : stp set y) (hb : inB p (x / 21 - 30 + dX y) (x % 21 - 10 + dY y)) (hn : u 17 (sIx (x / 21 - 30 + dX y) (x % 21 - 10 + dY y)) = -9) (hst : 0 ≤ st) (hl : u 17 x = st) : SM1 p set st σ (up u 17 (sIx (x / 21 - 30 + dX y) (x % 21 - 10 + dY y)) (st + 1)) := by
  intro i i0 i1
  rw [up_i]
  by_cases q : i = sIx (x / 21 - 30 + dX y) (x % 21 - 10 + dY y)
  · rw [if_pos q]
    have b1 := hb.1
    have b2 := hb.2.1
    have e : i / 21 - 30 = x / 21 - 30 + dX y ∧ i % 21 - 10 = x % 21 - 10 + dY y := by rw [q]; unfold sIx; omega
    right
    refine ⟨?_, rfl, by rw [e.1, e.2]; exact hb, x, y, hx, hy, hs, ?_, e.1, e.2⟩
    · rw [← q] at hn
      rcases h i i0 i1 with r | r
      · omega
      · omega
    · rcases h x hx.1 hx.2 with r | r
      · omega
      · omega
  · rw [if_neg q]; exact h i i0 i1
theorem sm_st2 {p set st x y i : Int} {σ u : St} (h : SM2 p set st σ u x y) (hst : 0 ≤ st) (hi : i = sIx (x / 21 - 30 + dX y) (x % 21 - 10 + dY y)) : SM2 p set st σ (up u 17 i (st + 1)) x (y + 1) := by
  intro j c a1 a2 a3 a4 a5 a6 a7 a8
  rw [up_i]
  by_cases q : sIx (j / 21 - 30 + dX c) (j % 21 - 10 + dY c) = i
  · rw [if_pos q]; omega
  · rw [if_neg q]
    refine h j c a1 a2 a3 a4 ?_ a6 a7 a8
    rcases (show (j < x ∨ (j = x ∧ c < y)) ∨ (j = x ∧ c = y) by omega) with r | ⟨rfl, rfl⟩
    · exact r
    · exact absurd hi.symm q
theorem gb_st {P : Int → Prop} {y : Int} (g2 : ∀ c, 0 ≤ c → c < y → ¬ P c) (h : ¬ P y) (c : Int) (c0 : 0 ≤ c) (c1 : c < y + 1) : ¬ P c := by
  by_cases q : c = y
  · rw [q]; exact h
  · exact g2 c c0 (by omega)
theorem fill_st {u1 : St} {x : Int} (h3 : ∀ i, 0 ≤ i → i < x → u1 17 i = -9) (i : Int) (i0 : 0 ≤ i) (i1 : i < x + 1) : up u1 17 x (-9) 17 i = -9 := by
  rw [up_i]
  by_cases q : i = x
  · rw [if_pos q]
  · rw [if_neg q]; exact h3 i i0 (by omega)
theorem LVS_rng {p set X Y : Int} {u : St} {n : Nat} (h : LVS p set X Y u n) (hn : n ≤ 5) {i : Int} (i0 : 0 ≤ i) (i1 : i < 1281) : -9 ≤ u 17 i ∧ u 17 i ≤ 5 := by
  have e : sIx (i / 21 - 30) (i % 21 - 10) = i := by unfold sIx; omega
  rcases h (i / 21 - 30) (i % 21 - 10) (by omega) (by omega) with q | ⟨d, d1, d2, -⟩
  · rw [e] at q; omega
  · rw [e] at d2; omega
theorem fs_end {p q set X Y st : Int} {u : St} (hp : 20 ≤ p ∧ p ≤ 400) (hq : 20 ≤ q ∧ q ≤ 400) (hT : TG p q X Y) (h : LVS p set X Y u st.toNat) (hs : 0 ≤ st ∧ st ≤ 5) (hc : 5 ≤ st ∨ ¬ u 17 640 = -9) : ((∀ X Y, TG p q X Y → ¬ rch p set X Y 5 0 0) ∧ u 17 640 = -9) ∨ (∃ X Y, TG p q X Y ∧ ∃ d n : Nat, d ≤ n ∧ n ≤ 5 ∧ u 17 640 = d ∧ lv p set X Y d 0 0 ∧ LVS p set X Y u n) := by
  rcases h 0 0 (by omega) (by omega) with ⟨q1, q2⟩ | ⟨e, e1, e2, e3⟩
  · have q1 : u 17 640 = -9 := q1
    left
    refine ⟨fun X' Y' hT' => ?_, q1⟩
    obtain ⟨rfl, rfl⟩ := TG_one hp hq hT hT'
    have : st.toNat = 5 := by omega
    rw [this] at q2
    exact q2
  · right
    exact ⟨X, Y, hT, e, st.toNat, e1, by omega, e2, e3, h⟩

set_option maxHeartbeats 4000000 in
set_option maxRecDepth 100000 in
theorem kX6_stepsMore (l : Launch) (D : va_G) (E : Nat → Nat) (q : Nat → Nat) (σ : St) (p_ set steps : Int) (hr : (20 ≤ p_ ∧ p_ ≤ 400) ∧ (0 ≤ set ∧ set ≤ 1048575) ∧ (0 ≤ steps ∧ steps ≤ 4)) (hg : ∀ i, 0 ≤ i → i < 1281 → -9 ≤ σ 17 i ∧ σ 17 i ≤ 5) : CtV l D E yX6_stepsMore wsX6_stepsMore ({ frames := 2, cells := 0, slots := 0, locals := 50 } : Room) [.ref (q 0), .int (jI p_), .int (jI set), .int (jI steps)] (MW E q σ) (MW E q) (fun (uu : St) => (∀ F, F ≠ 17 → uu F = σ F) ∧ SM1 p_ set steps σ uu ∧ SM2 p_ set steps σ uu 1281 0) := by
  refine mk_V (cc := cX6_stepsMore) (maxL := 10) (ret := none) (by decide) rfl (Nat.le_of_ble_eq_true rfl) ?_
  intro p e s m args below meth c A X hret
  have hin6 : ∀ x ∈ u_ws RX6 TX6 19, x ∈ wsX6_stepsMore := fun _ h => List.mem_cons_of_mem _ (List.mem_append_right _ h)
  refine z_lv (lv' := [(0, .ref (q 0)), (1, .int (jI p_)), (2, .int (jI set)), (3, .int (jI steps))]) [0, 1, 2, 3] rfl ?_
  refine z_iconst (pc' := 1) X dX6_stepsMore_0 rfl ?_
  refine z_istore (pc' := 3) (lv' := [(4, .int (jI 0)), (0, .ref (q 0)), (1, .int (jI p_)), (2, .int (jI set)), (3, .int (jI steps))]) X dX6_stepsMore_1 rfl (by decide) rfl ?_
  have lp3 : ∀ (nF : Nat) (x : Int) (u1 : St) , ((0 ≤ x ∧ x ≤ 1281) ∧ (∀ F, F ≠ 17 → u1 F = σ F) ∧ SM1 p_ set steps σ u1 ∧ SM2 p_ set steps σ u1 x 0) → ((1281 - x).toNat : Nat) < nF → J p l e (headSpec wsX6_stepsMore ({ frames := 2, cells := 0, slots := 0, locals := 50 } : Room)).room s m args below meth c D A 10 (MQ below (va_Qv (fun (uu : St) => (∀ F, F ≠ 17 → uu F = σ F) ∧ SM1 p_ set steps σ uu ∧ SM2 p_ set steps σ uu 1281 0) (Bw D (MW E q) A) A) args s 0 0 A) 3 [(4, .int (jI x)), (0, .ref (q 0)), (1, .int (jI p_)), (2, .int (jI set)), (3, .int (jI steps))] [] (MW E q u1) := by
    intro nF
    induction nF with
    | zero => intro x u1  hI hn; exact absurd hn (Nat.not_lt_zero _)
    | succ nF ih3 =>
      intro x u1  hI hn
      obtain ⟨h1, h2, h3, h4⟩ := hI
      refine z_iload (pc' := 5) X dX6_stepsMore_3 rfl 0 rfl ?_
      refine z_sipush (pc' := 8) X dX6_stepsMore_5 rfl rfl ?_
      refine z_icmp_ge (tgt := 149) (pc' := 11) X dX6_stepsMore_8 (by decide) rfl (by omega) (fun h8 => ?_) (fun h8 => ?_)
      · exact z_vret (post := (fun (uu : St) => (∀ F, F ≠ 17 → uu F = σ F) ∧ SM1 p_ set steps σ uu ∧ SM2 p_ set steps σ uu 1281 0)) X dX6_stepsMore_149 hret u1 (⟨h2, h3, by rw [← show x = 1281 by omega]; exact h4⟩)
      · refine z_iconst (pc' := 12) X dX6_stepsMore_11 rfl ?_
        refine z_istore (pc' := 14) (lv' := [(5, .int (jI 0)), (4, .int (jI x)), (0, .ref (q 0)), (1, .int (jI p_)), (2, .int (jI set)), (3, .int (jI steps))]) X dX6_stepsMore_12 rfl (by decide) rfl ?_
        have lp14 : ∀ (nF : Nat) (y : Int) (u2 : St) , ((0 ≤ y ∧ y ≤ 400) ∧ (∀ F, F ≠ 17 → u2 F = σ F) ∧ SM1 p_ set steps σ u2 ∧ SM2 p_ set steps σ u2 x y) → ((400 - y).toNat : Nat) < nF → J p l e (headSpec wsX6_stepsMore ({ frames := 2, cells := 0, slots := 0, locals := 50 } : Room)).room s m args below meth c D A 10 (MQ below (va_Qv (fun (uu : St) => (∀ F, F ≠ 17 → uu F = σ F) ∧ SM1 p_ set steps σ uu ∧ SM2 p_ set steps σ uu 1281 0) (Bw D (MW E q) A) A) args s 0 0 A) 14 [(5, .int (jI y)), (4, .int (jI x)), (0, .ref (q 0)), (1, .int (jI p_)), (2, .int (jI set)), (3, .int (jI steps))] [] (MW E q u2) := by
          intro nF
          induction nF with
          | zero => intro y u2  hI hn; exact absurd hn (Nat.not_lt_zero _)
          | succ nF ih14 =>
            intro y u2  hI hn
            obtain ⟨g1, g2, g3, g4⟩ := hI
            refine z_iload (pc' := 16) X dX6_stepsMore_14 rfl 0 rfl ?_
            refine z_sipush (pc' := 19) X dX6_stepsMore_16 rfl rfl ?_
            refine z_icmp_ge (tgt := 143) (pc' := 22) X dX6_stepsMore_19 (by decide) rfl (by omega) (fun h19 => ?_) (fun h19 => ?_)
            · refine z_iinc (pc' := 146) (lv' := [(4, .int (jI (x + 1))), (5, .int (jI y)), (0, .ref (q 0)), (1, .int (jI p_)), (2, .int (jI set)), (3, .int (jI steps))]) X dX6_stepsMore_143 rfl 1 rfl (by decide) rfl ?_
              refine z_goto (tgt := 3) X dX6_stepsMore_146 (by decide) ?_
              refine z_lv (lv' := [(4, .int (jI (x + 1))), (0, .ref (q 0)), (1, .int (jI p_)), (2, .int (jI set)), (3, .int (jI steps))]) [0, 2, 3, 4, 5] rfl ?_
              exact ih3 (x + 1) u2  (by first | exact ⟨by omega, g2, g3, sm_row g4 (by omega)⟩ | exact ⟨by omega, g2, g3, sm_rown g3 g4 (by omega) h30 (by omega)⟩) (by omega)
            · have rx := sm_rng g3 hg (by omega) (i := x) (by omega) (by omega)
              refine z_aload_n (pc' := 23) X dX6_stepsMore_22 rfl 2 rfl rfl ?_
              refine z_get (pc' := 26) (C := RX6) (ref := "PivotBeatsModel") (T := TX6) (N := 19) (v := .ref (q 17)) X dX6_stepsMore_23 rfl hin6 0 rfl rfl 17 (by decide) (by decide +kernel) rfl rfl ?_
              refine z_iload (pc' := 28) X dX6_stepsMore_26 rfl 1 rfl ?_
              refine z_iald (pc' := 29) (f := u2 17) (n := 1281) X dX6_stepsMore_28 rfl 13 rfl (by decide) (by omega) ?_
              refine z_iload_n (pc' := 30) X dX6_stepsMore_29 rfl 5 rfl rfl ?_
              refine z_icmp_ne (tgt := 143) (pc' := 33) X dX6_stepsMore_30 (by decide) rfl (by omega) (fun h30 => ?_) (fun h30 => ?_)
              · refine z_iinc (pc' := 146) (lv' := [(4, .int (jI (x + 1))), (5, .int (jI y)), (0, .ref (q 0)), (1, .int (jI p_)), (2, .int (jI set)), (3, .int (jI steps))]) X dX6_stepsMore_143 rfl 1 rfl (by decide) rfl ?_
                refine z_goto (tgt := 3) X dX6_stepsMore_146 (by decide) ?_
                refine z_lv (lv' := [(4, .int (jI (x + 1))), (0, .ref (q 0)), (1, .int (jI p_)), (2, .int (jI set)), (3, .int (jI steps))]) [0, 2, 3, 4, 5] rfl ?_
                exact ih3 (x + 1) u2  (by first | exact ⟨by omega, g2, g3, sm_row g4 (by omega)⟩ | exact ⟨by omega, g2, g3, sm_rown g3 g4 (by omega) h30 (by omega)⟩) (by omega)
              · have dv : 0 ≤ y / 20 ∧ y / 20 < 20 := by omega
                have md : 0 ≤ y % 20 ∧ y % 20 < 20 := by omega
                have ta := tw_rng dv
                have tb := tw_rng md
                refine z_iload (pc' := 35) X dX6_stepsMore_33 rfl 0 rfl ?_
                refine z_bipush (pc' := 37) X dX6_stepsMore_35 rfl rfl ?_
                refine z_idiv (pc' := 38) X dX6_stepsMore_37 rfl (by omega) ?_
                refine z_istore (pc' := 40) (lv' := [(6, .int (jI (y / 20))), (5, .int (jI y)), (4, .int (jI x)), (0, .ref (q 0)), (1, .int (jI p_)), (2, .int (jI set)), (3, .int (jI steps))]) X dX6_stepsMore_38 rfl (by decide) rfl ?_
                refine z_iload (pc' := 42) X dX6_stepsMore_40 rfl 1 rfl ?_
                refine z_bipush (pc' := 44) X dX6_stepsMore_42 rfl rfl ?_
                refine z_irem (pc' := 45) X dX6_stepsMore_44 rfl (by omega) ?_
                refine z_istore (pc' := 47) (lv' := [(7, .int (jI (y % 20))), (6, .int (jI (y / 20))), (5, .int (jI y)), (4, .int (jI x)), (0, .ref (q 0)), (1, .int (jI p_)), (2, .int (jI set)), (3, .int (jI steps))]) X dX6_stepsMore_45 rfl (by decide) rfl ?_
                refine z_iload_n (pc' := 48) X dX6_stepsMore_47 rfl 6 rfl rfl ?_
                refine z_iload (pc' := 50) X dX6_stepsMore_48 rfl 1 rfl ?_
                refine z_iload (pc' := 52) X dX6_stepsMore_50 rfl 0 rfl ?_
                refine z_callPI (pc' := 55) (S := Unit) (As := [.int (jI set), .int (jI (y / 20)), .int (jI (y % 20))]) (rest := []) X dX6_stepsMore_52 rfl (kX6_isOf l D E set (y / 20) (y % 20)  (by omega)) (va_cwS 3 X.1.2.2.2.2 gX6_stepsMore_X6_isOf rfl rfl rfl (by decide +kernel) ⟨Nat.le_of_ble_eq_true rfl, Nat.le_of_ble_eq_true rfl⟩) rfl rfl (Nat.le_of_ble_eq_true rfl) (fun r52 u52 hp52 => ?_)
                skip
                rcases hp52 with ⟨rfl, hp52⟩ | ⟨rfl, hp52⟩
                · refine z_if_eq (tgt := 137) (pc' := 58) X dX6_stepsMore_55 (by decide) rfl (by omega) (fun h => absurd h (by decide)) (fun _ => ?_)
                  refine z_iload (pc' := 60) X dX6_stepsMore_58 rfl 3 rfl ?_
                  refine z_bipush (pc' := 62) X dX6_stepsMore_60 rfl rfl ?_
                  refine z_idiv (pc' := 63) X dX6_stepsMore_62 rfl (by omega) ?_
                  refine z_bipush (pc' := 65) X dX6_stepsMore_63 rfl rfl ?_
                  refine z_isub (pc' := 66) X dX6_stepsMore_65 rfl ?_
                  refine z_iload (pc' := 68) X dX6_stepsMore_66 rfl 1 rfl ?_
                  refine z_iload (pc' := 70) X dX6_stepsMore_68 rfl 0 rfl ?_
                  refine z_callPI (pc' := 73) (S := Unit) (As := [.int (jI (y / 20)), .int (jI (y % 20))]) (rest := [.int (jI ((x / 21) - 30))]) X dX6_stepsMore_70 rfl (kX6_twosBy l D E (y / 20) (y % 20)  (by omega)) (va_cwS 2 X.1.2.2.2.2 gX6_stepsMore_X6_twosBy rfl rfl rfl (by decide +kernel) ⟨Nat.le_of_ble_eq_true rfl, Nat.le_of_ble_eq_true rfl⟩) rfl rfl (Nat.le_of_ble_eq_true rfl) (fun r70 u70 hp70 => ?_)
                  replace hp70 := hp70.symm; subst hp70
                  refine z_iadd (pc' := 74) X dX6_stepsMore_73 rfl ?_
                  refine z_istore (pc' := 76) (lv' := [(8, .int (jI (((x / 21) - 30) + (tw (y % 20) - tw (y / 20))))), (7, .int (jI (y % 20))), (6, .int (jI (y / 20))), (5, .int (jI y)), (4, .int (jI x)), (0, .ref (q 0)), (1, .int (jI p_)), (2, .int (jI set)), (3, .int (jI steps))]) X dX6_stepsMore_74 rfl (by decide) rfl ?_
                  refine z_iload (pc' := 78) X dX6_stepsMore_76 rfl 4 rfl ?_
                  refine z_bipush (pc' := 80) X dX6_stepsMore_78 rfl rfl ?_
                  refine z_irem (pc' := 81) X dX6_stepsMore_80 rfl (by omega) ?_
                  refine z_bipush (pc' := 83) X dX6_stepsMore_81 rfl rfl ?_
                  refine z_isub (pc' := 84) X dX6_stepsMore_83 rfl ?_
                  refine z_iload (pc' := 86) X dX6_stepsMore_84 rfl 2 rfl ?_
                  refine z_iload (pc' := 88) X dX6_stepsMore_86 rfl 1 rfl ?_
                  refine z_callPI (pc' := 91) (S := Unit) (As := [.int (jI (y / 20)), .int (jI (y % 20))]) (rest := [.int (jI ((x % 21) - 10))]) X dX6_stepsMore_88 rfl (kX6_threesBy l D E (y / 20) (y % 20)  (by omega)) (va_cwS 2 X.1.2.2.2.2 gX6_stepsMore_X6_threesBy rfl rfl rfl (by decide +kernel) ⟨Nat.le_of_ble_eq_true rfl, Nat.le_of_ble_eq_true rfl⟩) rfl rfl (Nat.le_of_ble_eq_true rfl) (fun r88 u88 hp88 => ?_)
                  replace hp88 := hp88.symm; subst hp88
                  refine z_iadd (pc' := 92) X dX6_stepsMore_91 rfl ?_
                  refine z_istore (pc' := 94) (lv' := [(9, .int (jI (((x % 21) - 10) + (th (y % 20) - th (y / 20))))), (8, .int (jI (((x / 21) - 30) + (tw (y % 20) - tw (y / 20))))), (7, .int (jI (y % 20))), (6, .int (jI (y / 20))), (5, .int (jI y)), (4, .int (jI x)), (0, .ref (q 0)), (1, .int (jI p_)), (2, .int (jI set)), (3, .int (jI steps))]) X dX6_stepsMore_92 rfl (by decide) rfl ?_
                  refine z_iload_n (pc' := 95) X dX6_stepsMore_94 rfl 7 rfl rfl ?_
                  refine z_iload (pc' := 97) X dX6_stepsMore_95 rfl 1 rfl ?_
                  refine z_iload (pc' := 99) X dX6_stepsMore_97 rfl 0 rfl ?_
                  refine z_callPI (pc' := 102) (S := Unit) (As := [.int (jI p_), .int (jI (((x / 21) - 30) + (tw (y % 20) - tw (y / 20)))), .int (jI (((x % 21) - 10) + (th (y % 20) - th (y / 20))))]) (rest := []) X dX6_stepsMore_99 rfl (kX6_isPlayed l D E p_ (((x / 21) - 30) + (tw (y % 20) - tw (y / 20))) (((x % 21) - 10) + (th (y % 20) - th (y / 20)))  (by omega)) (va_cwS 3 X.1.2.2.2.2 gX6_stepsMore_X6_isPlayed rfl rfl rfl (by decide +kernel) ⟨Nat.le_of_ble_eq_true rfl, Nat.le_of_ble_eq_true rfl⟩) rfl rfl (Nat.le_of_ble_eq_true rfl) (fun r99 u99 hp99 => ?_)
                  skip
                  rcases hp99 with ⟨rfl, hp99⟩ | ⟨rfl, hp99⟩
                  · refine z_if_eq (tgt := 137) (pc' := 105) X dX6_stepsMore_102 (by decide) rfl (by omega) (fun h => absurd h (by decide)) (fun _ => ?_)
                    have nb := hp99.1
                    have nb2 := hp99.2.1
                    have ri := sm_rng g3 hg (by omega) (i := 21 * (x / 21 - 30 + (tw (y % 20) - tw (y / 20)) + 30) + (x % 21 - 10 + (th (y % 20) - th (y / 20))) + 10) (by omega) (by omega)
                    refine z_aload_n (pc' := 106) X dX6_stepsMore_105 rfl 6 rfl rfl ?_
                    refine z_get (pc' := 109) (C := RX6) (ref := "PivotBeatsModel") (T := TX6) (N := 19) (v := .ref (q 17)) X dX6_stepsMore_106 rfl hin6 0 rfl rfl 17 (by decide) (by decide +kernel) rfl rfl ?_
                    refine z_iload (pc' := 111) X dX6_stepsMore_109 rfl 1 rfl ?_
                    refine z_iload (pc' := 113) X dX6_stepsMore_111 rfl 0 rfl ?_
                    refine z_callPI (pc' := 116) (S := Unit) (As := [.int (jI (((x / 21) - 30) + (tw (y % 20) - tw (y / 20)))), .int (jI (((x % 21) - 10) + (th (y % 20) - th (y / 20))))]) (rest := [.ref (q 17)]) X dX6_stepsMore_113 rfl (kX6_indexOf l D E (((x / 21) - 30) + (tw (y % 20) - tw (y / 20))) (((x % 21) - 10) + (th (y % 20) - th (y / 20)))  ) (va_cwS 2 X.1.2.2.2.2 gX6_stepsMore_X6_indexOf rfl rfl rfl (by decide +kernel) ⟨Nat.le_of_ble_eq_true rfl, Nat.le_of_ble_eq_true rfl⟩) rfl rfl (Nat.le_of_ble_eq_true rfl) (fun r113 u113 hp113 => ?_)
                    replace hp113 := hp113.symm; subst hp113
                    refine z_iald (pc' := 117) (f := u2 17) (n := 1281) X dX6_stepsMore_116 rfl 13 rfl (by decide) (by omega) ?_
                    refine z_bipush (pc' := 119) X dX6_stepsMore_117 rfl rfl ?_
                    refine z_icmp_ne (tgt := 137) (pc' := 122) X dX6_stepsMore_119 (by decide) rfl (by omega) (fun h119 => ?_) (fun h119 => ?_)
                    · refine z_iinc (pc' := 140) (lv' := [(5, .int (jI (y + 1))), (9, .int (jI (((x % 21) - 10) + (th (y % 20) - th (y / 20))))), (8, .int (jI (((x / 21) - 30) + (tw (y % 20) - tw (y / 20))))), (7, .int (jI (y % 20))), (6, .int (jI (y / 20))), (4, .int (jI x)), (0, .ref (q 0)), (1, .int (jI p_)), (2, .int (jI set)), (3, .int (jI steps))]) X dX6_stepsMore_137 rfl 4 rfl (by decide) rfl ?_
                      refine z_goto (tgt := 14) X dX6_stepsMore_140 (by decide) ?_
                      refine z_lv (lv' := [(5, .int (jI (y + 1))), (4, .int (jI x)), (0, .ref (q 0)), (1, .int (jI p_)), (2, .int (jI set)), (3, .int (jI steps))]) [0, 5, 6, 7, 8, 9] rfl ?_
                      exact ih14 (y + 1) u2  (by first | exact ⟨by omega, g2, g3, sm_no g4 (fun z1 z2 z3 => absurd ((isOf_iff (by omega)).mpr z2) hp52)⟩ | exact ⟨by omega, g2, g3, sm_no g4 (fun z1 z2 z3 => absurd z3 hp99)⟩ | exact ⟨by omega, g2, g3, sm_no g4 (fun z1 z2 z3 => h119)⟩ | exact ⟨by omega, fun F hF => by rw [← g2 F hF]; funext i; exact up_f _ _ _ _ hF, sm_st1 g3 (by omega) (by omega) ((isOf_iff (by omega)).mp hp52) hp99 h119 (by omega) h30, sm_st2 g4 (by omega) rfl⟩) (by omega)
                    · refine z_aload_n (pc' := 123) X dX6_stepsMore_122 rfl 6 rfl rfl ?_
                      refine z_get (pc' := 126) (C := RX6) (ref := "PivotBeatsModel") (T := TX6) (N := 19) (v := .ref (q 17)) X dX6_stepsMore_123 rfl hin6 0 rfl rfl 17 (by decide) (by decide +kernel) rfl rfl ?_
                      refine z_iload (pc' := 128) X dX6_stepsMore_126 rfl 1 rfl ?_
                      refine z_iload (pc' := 130) X dX6_stepsMore_128 rfl 0 rfl ?_
                      refine z_callPI (pc' := 133) (S := Unit) (As := [.int (jI (((x / 21) - 30) + (tw (y % 20) - tw (y / 20)))), .int (jI (((x % 21) - 10) + (th (y % 20) - th (y / 20))))]) (rest := [.ref (q 17)]) X dX6_stepsMore_130 rfl (kX6_indexOf l D E (((x / 21) - 30) + (tw (y % 20) - tw (y / 20))) (((x % 21) - 10) + (th (y % 20) - th (y / 20)))  ) (va_cwS 2 X.1.2.2.2.2 gX6_stepsMore_X6_indexOf rfl rfl rfl (by decide +kernel) ⟨Nat.le_of_ble_eq_true rfl, Nat.le_of_ble_eq_true rfl⟩) rfl rfl (Nat.le_of_ble_eq_true rfl) (fun r130 u130 hp130 => ?_)
                      replace hp130 := hp130.symm; subst hp130
                      refine z_iload_n (pc' := 134) X dX6_stepsMore_133 rfl 9 rfl rfl ?_
                      refine z_iconst (pc' := 135) X dX6_stepsMore_134 rfl ?_
                      refine z_iadd (pc' := 136) X dX6_stepsMore_135 rfl ?_
                      refine z_iast (pc' := 137) (f := u2 17) (n := 1281) (w' := MW E q (up u2 17 (21 * ((((x / 21) - 30) + (tw (y % 20) - tw (y / 20))) + 30) + (((x % 21) - 10) + (th (y % 20) - th (y / 20))) + 10) (steps + 1))) X dX6_stepsMore_136 rfl 13 rfl (by decide) (by omega) rfl ?_
                      refine z_iinc (pc' := 140) (lv' := [(5, .int (jI (y + 1))), (9, .int (jI (((x % 21) - 10) + (th (y % 20) - th (y / 20))))), (8, .int (jI (((x / 21) - 30) + (tw (y % 20) - tw (y / 20))))), (7, .int (jI (y % 20))), (6, .int (jI (y / 20))), (4, .int (jI x)), (0, .ref (q 0)), (1, .int (jI p_)), (2, .int (jI set)), (3, .int (jI steps))]) X dX6_stepsMore_137 rfl 4 rfl (by decide) rfl ?_
                      refine z_goto (tgt := 14) X dX6_stepsMore_140 (by decide) ?_
                      refine z_lv (lv' := [(5, .int (jI (y + 1))), (4, .int (jI x)), (0, .ref (q 0)), (1, .int (jI p_)), (2, .int (jI set)), (3, .int (jI steps))]) [0, 5, 6, 7, 8, 9] rfl ?_
                      exact ih14 (y + 1) (up u2 17 (21 * ((((x / 21) - 30) + (tw (y % 20) - tw (y / 20))) + 30) + (((x % 21) - 10) + (th (y % 20) - th (y / 20))) + 10) (steps + 1))  (by first | exact ⟨by omega, g2, g3, sm_no g4 (fun z1 z2 z3 => absurd ((isOf_iff (by omega)).mpr z2) hp52)⟩ | exact ⟨by omega, g2, g3, sm_no g4 (fun z1 z2 z3 => absurd z3 hp99)⟩ | exact ⟨by omega, g2, g3, sm_no g4 (fun z1 z2 z3 => h119)⟩ | exact ⟨by omega, fun F hF => by rw [← g2 F hF]; funext i; exact up_f _ _ _ _ hF, sm_st1 g3 (by omega) (by omega) ((isOf_iff (by omega)).mp hp52) hp99 h119 (by omega) h30, sm_st2 g4 (by omega) rfl⟩) (by omega)
                  · refine z_if_eq (tgt := 137) (pc' := 105) X dX6_stepsMore_102 (by decide) rfl (by omega) (fun _ => ?_) (fun h => absurd h (by decide))
                    refine z_iinc (pc' := 140) (lv' := [(5, .int (jI (y + 1))), (9, .int (jI (((x % 21) - 10) + (th (y % 20) - th (y / 20))))), (8, .int (jI (((x / 21) - 30) + (tw (y % 20) - tw (y / 20))))), (7, .int (jI (y % 20))), (6, .int (jI (y / 20))), (4, .int (jI x)), (0, .ref (q 0)), (1, .int (jI p_)), (2, .int (jI set)), (3, .int (jI steps))]) X dX6_stepsMore_137 rfl 4 rfl (by decide) rfl ?_
                    refine z_goto (tgt := 14) X dX6_stepsMore_140 (by decide) ?_
                    refine z_lv (lv' := [(5, .int (jI (y + 1))), (4, .int (jI x)), (0, .ref (q 0)), (1, .int (jI p_)), (2, .int (jI set)), (3, .int (jI steps))]) [0, 5, 6, 7, 8, 9] rfl ?_
                    exact ih14 (y + 1) u2  (by first | exact ⟨by omega, g2, g3, sm_no g4 (fun z1 z2 z3 => absurd ((isOf_iff (by omega)).mpr z2) hp52)⟩ | exact ⟨by omega, g2, g3, sm_no g4 (fun z1 z2 z3 => absurd z3 hp99)⟩ | exact ⟨by omega, g2, g3, sm_no g4 (fun z1 z2 z3 => h119)⟩ | exact ⟨by omega, fun F hF => by rw [← g2 F hF]; funext i; exact up_f _ _ _ _ hF, sm_st1 g3 (by omega) (by omega) ((isOf_iff (by omega)).mp hp52) hp99 h119 (by omega) h30, sm_st2 g4 (by omega) rfl⟩) (by omega)
                · refine z_if_eq (tgt := 137) (pc' := 58) X dX6_stepsMore_55 (by decide) rfl (by omega) (fun _ => ?_) (fun h => absurd h (by decide))
                  refine z_iinc (pc' := 140) (lv' := [(5, .int (jI (y + 1))), (7, .int (jI (y % 20))), (6, .int (jI (y / 20))), (4, .int (jI x)), (0, .ref (q 0)), (1, .int (jI p_)), (2, .int (jI set)), (3, .int (jI steps))]) X dX6_stepsMore_137 rfl 2 rfl (by decide) rfl ?_
                  refine z_goto (tgt := 14) X dX6_stepsMore_140 (by decide) ?_
                  refine z_lv (lv' := [(5, .int (jI (y + 1))), (4, .int (jI x)), (0, .ref (q 0)), (1, .int (jI p_)), (2, .int (jI set)), (3, .int (jI steps))]) [0, 3, 4, 5, 6, 7] rfl ?_
                  exact ih14 (y + 1) u2  (by first | exact ⟨by omega, g2, g3, sm_no g4 (fun z1 z2 z3 => absurd ((isOf_iff (by omega)).mpr z2) hp52)⟩ | exact ⟨by omega, g2, g3, sm_no g4 (fun z1 z2 z3 => absurd z3 hp99)⟩ | exact ⟨by omega, g2, g3, sm_no g4 (fun z1 z2 z3 => h119)⟩ | exact ⟨by omega, fun F hF => by rw [← g2 F hF]; funext i; exact up_f _ _ _ _ hF, sm_st1 g3 (by omega) (by omega) ((isOf_iff (by omega)).mp hp52) hp99 h119 (by omega) h30, sm_st2 g4 (by omega) rfl⟩) (by omega)
        exact lp14 _ 0 u1  (⟨by omega, h2, h3, h4⟩) (Nat.lt_succ_self _)
  exact lp3 _ 0 σ  (⟨by omega, fun _ _ => rfl, fun i _ _ => Or.inl rfl, fun j c a1 a2 a3 a4 a5 => by omega⟩) (Nat.lt_succ_self _)
set_option maxHeartbeats 4000000 in
set_option maxRecDepth 100000 in
theorem kX6_goesBy (l : Launch) (D : va_G) (E : Nat → Nat) (q : Nat → Nat) (σ : St) (at_ p_ set : Int) (hr : (20 ≤ p_ ∧ p_ ≤ 400) ∧ (0 ≤ set ∧ set ≤ 1048575) ∧ (0 ≤ at_ ∧ at_ < 1281)) (hg : ∀ i, 0 ≤ i → i < 1281 → -9 ≤ σ 17 i ∧ σ 17 i ≤ 5) : CtI l D E yX6_goesBy wsX6_goesBy ({ frames := 2, cells := 0, slots := 0, locals := 50 } : Room) [.ref (q 0), .int (jI at_), .int (jI p_), .int (jI set)] (MW E q σ) (MW E q) (fun (rv : Int) (uu : St) => ((∀ F, F ≠ 18 → uu F = σ F) ∧ ((∃ c, (0 ≤ c ∧ c < 400) ∧ (stp set c ∧ inB p_ (at_ / 21 - 30 + dX c) (at_ % 21 - 10 + dY c) ∧ σ 17 (sIx (at_ / 21 - 30 + dX c) (at_ % 21 - 10 + dY c)) = σ 17 at_ - 1) ∧ (∀ c2, 0 ≤ c2 → c2 < c → ¬ (stp set c2 ∧ inB p_ (at_ / 21 - 30 + dX c2) (at_ % 21 - 10 + dY c2) ∧ σ 17 (sIx (at_ / 21 - 30 + dX c2) (at_ % 21 - 10 + dY c2)) = σ 17 at_ - 1)) ∧ uu 18 0 = 100 * (c / 20) + c % 20 ∧ rv = sIx (at_ / 21 - 30 + dX c) (at_ % 21 - 10 + dY c)) ∨ ((∀ c, 0 ≤ c → c < 400 → ¬ (stp set c ∧ inB p_ (at_ / 21 - 30 + dX c) (at_ % 21 - 10 + dY c) ∧ σ 17 (sIx (at_ / 21 - 30 + dX c) (at_ % 21 - 10 + dY c)) = σ 17 at_ - 1)) ∧ rv = at_)))) := by
  refine mk_I (cc := cX6_goesBy) (maxL := 9) (ret := some .int) (by decide) rfl (Nat.le_of_ble_eq_true rfl) ?_
  intro p e s m args below meth c A X hret
  have hin6 : ∀ x ∈ u_ws RX6 TX6 19, x ∈ wsX6_goesBy := fun _ h => List.mem_cons_of_mem _ (List.mem_append_right _ h)
  refine z_lv (lv' := [(0, .ref (q 0)), (1, .int (jI at_)), (2, .int (jI p_)), (3, .int (jI set))]) [0, 1, 2, 3] rfl ?_
  have ra := hg at_ (by omega) (by omega)
  refine z_iconst (pc' := 1) X dX6_goesBy_0 rfl ?_
  refine z_istore (pc' := 3) (lv' := [(4, .int (jI 0)), (0, .ref (q 0)), (1, .int (jI at_)), (2, .int (jI p_)), (3, .int (jI set))]) X dX6_goesBy_1 rfl (by decide) rfl ?_
  have lp3 : ∀ (nF : Nat) (y : Int) , ((0 ≤ y ∧ y ≤ 400) ∧ ∀ c, 0 ≤ c → c < y → ¬ (stp set c ∧ inB p_ (at_ / 21 - 30 + dX c) (at_ % 21 - 10 + dY c) ∧ σ 17 (sIx (at_ / 21 - 30 + dX c) (at_ % 21 - 10 + dY c)) = σ 17 at_ - 1)) → ((400 - y).toNat : Nat) < nF → J p l e (headSpec wsX6_goesBy ({ frames := 2, cells := 0, slots := 0, locals := 50 } : Room)).room s m args below meth c D A 9 (MQ below (va_Qi (fun r u => ∃ x, r = jI x ∧ (fun (rv : Int) (uu : St) => ((∀ F, F ≠ 18 → uu F = σ F) ∧ ((∃ c, (0 ≤ c ∧ c < 400) ∧ (stp set c ∧ inB p_ (at_ / 21 - 30 + dX c) (at_ % 21 - 10 + dY c) ∧ σ 17 (sIx (at_ / 21 - 30 + dX c) (at_ % 21 - 10 + dY c)) = σ 17 at_ - 1) ∧ (∀ c2, 0 ≤ c2 → c2 < c → ¬ (stp set c2 ∧ inB p_ (at_ / 21 - 30 + dX c2) (at_ % 21 - 10 + dY c2) ∧ σ 17 (sIx (at_ / 21 - 30 + dX c2) (at_ % 21 - 10 + dY c2)) = σ 17 at_ - 1)) ∧ uu 18 0 = 100 * (c / 20) + c % 20 ∧ rv = sIx (at_ / 21 - 30 + dX c) (at_ % 21 - 10 + dY c)) ∨ ((∀ c, 0 ≤ c → c < 400 → ¬ (stp set c ∧ inB p_ (at_ / 21 - 30 + dX c) (at_ % 21 - 10 + dY c) ∧ σ 17 (sIx (at_ / 21 - 30 + dX c) (at_ % 21 - 10 + dY c)) = σ 17 at_ - 1)) ∧ rv = at_)))) x u) (Bw D (MW E q) A) A) args s 0 0 A) 3 [(4, .int (jI y)), (0, .ref (q 0)), (1, .int (jI at_)), (2, .int (jI p_)), (3, .int (jI set))] [] (MW E q σ) := by
    intro nF
    induction nF with
    | zero => intro y  hI hn; exact absurd hn (Nat.not_lt_zero _)
    | succ nF ih3 =>
      intro y  hI hn
      obtain ⟨g1, g2⟩ := hI
      refine z_iload (pc' := 5) X dX6_goesBy_3 rfl 0 rfl ?_
      refine z_sipush (pc' := 8) X dX6_goesBy_5 rfl rfl ?_
      refine z_icmp_ge (tgt := 130) (pc' := 11) X dX6_goesBy_8 (by decide) rfl (by omega) (fun h8 => ?_) (fun h8 => ?_)
      · refine z_iload_n (pc' := 131) X dX6_goesBy_130 rfl 2 rfl rfl ?_
        exact z_iret (post := (fun (rv : Int) (uu : St) => ((∀ F, F ≠ 18 → uu F = σ F) ∧ ((∃ c, (0 ≤ c ∧ c < 400) ∧ (stp set c ∧ inB p_ (at_ / 21 - 30 + dX c) (at_ % 21 - 10 + dY c) ∧ σ 17 (sIx (at_ / 21 - 30 + dX c) (at_ % 21 - 10 + dY c)) = σ 17 at_ - 1) ∧ (∀ c2, 0 ≤ c2 → c2 < c → ¬ (stp set c2 ∧ inB p_ (at_ / 21 - 30 + dX c2) (at_ % 21 - 10 + dY c2) ∧ σ 17 (sIx (at_ / 21 - 30 + dX c2) (at_ % 21 - 10 + dY c2)) = σ 17 at_ - 1)) ∧ uu 18 0 = 100 * (c / 20) + c % 20 ∧ rv = sIx (at_ / 21 - 30 + dX c) (at_ % 21 - 10 + dY c)) ∨ ((∀ c, 0 ≤ c → c < 400 → ¬ (stp set c ∧ inB p_ (at_ / 21 - 30 + dX c) (at_ % 21 - 10 + dY c) ∧ σ 17 (sIx (at_ / 21 - 30 + dX c) (at_ % 21 - 10 + dY c)) = σ 17 at_ - 1)) ∧ rv = at_))))) X dX6_goesBy_131 hret σ (⟨fun _ _ => rfl, Or.inr ⟨fun c c0 c1 => g2 c c0 (by omega), rfl⟩⟩)
      · have dv : 0 ≤ y / 20 ∧ y / 20 < 20 := by omega
        have md : 0 ≤ y % 20 ∧ y % 20 < 20 := by omega
        have ta := tw_rng dv
        have tb := tw_rng md
        refine z_iload (pc' := 13) X dX6_goesBy_11 rfl 0 rfl ?_
        refine z_bipush (pc' := 15) X dX6_goesBy_13 rfl rfl ?_
        refine z_idiv (pc' := 16) X dX6_goesBy_15 rfl (by omega) ?_
        refine z_istore (pc' := 18) (lv' := [(5, .int (jI (y / 20))), (4, .int (jI y)), (0, .ref (q 0)), (1, .int (jI at_)), (2, .int (jI p_)), (3, .int (jI set))]) X dX6_goesBy_16 rfl (by decide) rfl ?_
        refine z_iload (pc' := 20) X dX6_goesBy_18 rfl 1 rfl ?_
        refine z_bipush (pc' := 22) X dX6_goesBy_20 rfl rfl ?_
        refine z_irem (pc' := 23) X dX6_goesBy_22 rfl (by omega) ?_
        refine z_istore (pc' := 25) (lv' := [(6, .int (jI (y % 20))), (5, .int (jI (y / 20))), (4, .int (jI y)), (0, .ref (q 0)), (1, .int (jI at_)), (2, .int (jI p_)), (3, .int (jI set))]) X dX6_goesBy_23 rfl (by decide) rfl ?_
        refine z_iload_n (pc' := 26) X dX6_goesBy_25 rfl 4 rfl rfl ?_
        refine z_bipush (pc' := 28) X dX6_goesBy_26 rfl rfl ?_
        refine z_idiv (pc' := 29) X dX6_goesBy_28 rfl (by omega) ?_
        refine z_bipush (pc' := 31) X dX6_goesBy_29 rfl rfl ?_
        refine z_isub (pc' := 32) X dX6_goesBy_31 rfl ?_
        refine z_iload (pc' := 34) X dX6_goesBy_32 rfl 1 rfl ?_
        refine z_iload (pc' := 36) X dX6_goesBy_34 rfl 0 rfl ?_
        refine z_callPI (pc' := 39) (S := Unit) (As := [.int (jI (y / 20)), .int (jI (y % 20))]) (rest := [.int (jI ((at_ / 21) - 30))]) X dX6_goesBy_36 rfl (kX6_twosBy l D E (y / 20) (y % 20)  (by omega)) (va_cwS 2 X.1.2.2.2.2 gX6_goesBy_X6_twosBy rfl rfl rfl (by decide +kernel) ⟨Nat.le_of_ble_eq_true rfl, Nat.le_of_ble_eq_true rfl⟩) rfl rfl (Nat.le_of_ble_eq_true rfl) (fun r36 u36 hp36 => ?_)
        replace hp36 := hp36.symm; subst hp36
        refine z_iadd (pc' := 40) X dX6_goesBy_39 rfl ?_
        refine z_istore (pc' := 42) (lv' := [(7, .int (jI (((at_ / 21) - 30) + (tw (y % 20) - tw (y / 20))))), (6, .int (jI (y % 20))), (5, .int (jI (y / 20))), (4, .int (jI y)), (0, .ref (q 0)), (1, .int (jI at_)), (2, .int (jI p_)), (3, .int (jI set))]) X dX6_goesBy_40 rfl (by decide) rfl ?_
        refine z_iload_n (pc' := 43) X dX6_goesBy_42 rfl 5 rfl rfl ?_
        refine z_bipush (pc' := 45) X dX6_goesBy_43 rfl rfl ?_
        refine z_irem (pc' := 46) X dX6_goesBy_45 rfl (by omega) ?_
        refine z_bipush (pc' := 48) X dX6_goesBy_46 rfl rfl ?_
        refine z_isub (pc' := 49) X dX6_goesBy_48 rfl ?_
        refine z_iload (pc' := 51) X dX6_goesBy_49 rfl 2 rfl ?_
        refine z_iload (pc' := 53) X dX6_goesBy_51 rfl 1 rfl ?_
        refine z_callPI (pc' := 56) (S := Unit) (As := [.int (jI (y / 20)), .int (jI (y % 20))]) (rest := [.int (jI ((at_ % 21) - 10))]) X dX6_goesBy_53 rfl (kX6_threesBy l D E (y / 20) (y % 20)  (by omega)) (va_cwS 2 X.1.2.2.2.2 gX6_goesBy_X6_threesBy rfl rfl rfl (by decide +kernel) ⟨Nat.le_of_ble_eq_true rfl, Nat.le_of_ble_eq_true rfl⟩) rfl rfl (Nat.le_of_ble_eq_true rfl) (fun r53 u53 hp53 => ?_)
        replace hp53 := hp53.symm; subst hp53
        refine z_iadd (pc' := 57) X dX6_goesBy_56 rfl ?_
        refine z_istore (pc' := 59) (lv' := [(8, .int (jI (((at_ % 21) - 10) + (th (y % 20) - th (y / 20))))), (7, .int (jI (((at_ / 21) - 30) + (tw (y % 20) - tw (y / 20))))), (6, .int (jI (y % 20))), (5, .int (jI (y / 20))), (4, .int (jI y)), (0, .ref (q 0)), (1, .int (jI at_)), (2, .int (jI p_)), (3, .int (jI set))]) X dX6_goesBy_57 rfl (by decide) rfl ?_
        refine z_iload_n (pc' := 60) X dX6_goesBy_59 rfl 8 rfl rfl ?_
        refine z_iload (pc' := 62) X dX6_goesBy_60 rfl 3 rfl ?_
        refine z_iload (pc' := 64) X dX6_goesBy_62 rfl 2 rfl ?_
        refine z_callPI (pc' := 67) (S := Unit) (As := [.int (jI set), .int (jI (y / 20)), .int (jI (y % 20))]) (rest := []) X dX6_goesBy_64 rfl (kX6_isOf l D E set (y / 20) (y % 20)  (by omega)) (va_cwS 3 X.1.2.2.2.2 gX6_goesBy_X6_isOf rfl rfl rfl (by decide +kernel) ⟨Nat.le_of_ble_eq_true rfl, Nat.le_of_ble_eq_true rfl⟩) rfl rfl (Nat.le_of_ble_eq_true rfl) (fun r64 u64 hp64 => ?_)
        skip
        rcases hp64 with ⟨rfl, hp64⟩ | ⟨rfl, hp64⟩
        · refine z_if_eq (tgt := 124) (pc' := 70) X dX6_goesBy_67 (by decide) rfl (by omega) (fun h => absurd h (by decide)) (fun _ => ?_)
          refine z_iload_n (pc' := 71) X dX6_goesBy_70 rfl 7 rfl rfl ?_
          refine z_iload (pc' := 73) X dX6_goesBy_71 rfl 1 rfl ?_
          refine z_iload (pc' := 75) X dX6_goesBy_73 rfl 0 rfl ?_
          refine z_callPI (pc' := 78) (S := Unit) (As := [.int (jI p_), .int (jI (((at_ / 21) - 30) + (tw (y % 20) - tw (y / 20)))), .int (jI (((at_ % 21) - 10) + (th (y % 20) - th (y / 20))))]) (rest := []) X dX6_goesBy_75 rfl (kX6_isPlayed l D E p_ (((at_ / 21) - 30) + (tw (y % 20) - tw (y / 20))) (((at_ % 21) - 10) + (th (y % 20) - th (y / 20)))  (by omega)) (va_cwS 3 X.1.2.2.2.2 gX6_goesBy_X6_isPlayed rfl rfl rfl (by decide +kernel) ⟨Nat.le_of_ble_eq_true rfl, Nat.le_of_ble_eq_true rfl⟩) rfl rfl (Nat.le_of_ble_eq_true rfl) (fun r75 u75 hp75 => ?_)
          skip
          rcases hp75 with ⟨rfl, hp75⟩ | ⟨rfl, hp75⟩
          · refine z_if_eq (tgt := 124) (pc' := 81) X dX6_goesBy_78 (by decide) rfl (by omega) (fun h => absurd h (by decide)) (fun _ => ?_)
            have nb := hp75.1
            have nb2 := hp75.2.1
            have ri := hg (21 * (at_ / 21 - 30 + (tw (y % 20) - tw (y / 20)) + 30) + (at_ % 21 - 10 + (th (y % 20) - th (y / 20))) + 10) (by omega) (by omega)
            refine z_aload_n (pc' := 82) X dX6_goesBy_81 rfl 5 rfl rfl ?_
            refine z_get (pc' := 85) (C := RX6) (ref := "PivotBeatsModel") (T := TX6) (N := 19) (v := .ref (q 17)) X dX6_goesBy_82 rfl hin6 0 rfl rfl 17 (by decide) (by decide +kernel) rfl rfl ?_
            refine z_iload (pc' := 87) X dX6_goesBy_85 rfl 1 rfl ?_
            refine z_iload (pc' := 89) X dX6_goesBy_87 rfl 0 rfl ?_
            refine z_callPI (pc' := 92) (S := Unit) (As := [.int (jI (((at_ / 21) - 30) + (tw (y % 20) - tw (y / 20)))), .int (jI (((at_ % 21) - 10) + (th (y % 20) - th (y / 20))))]) (rest := [.ref (q 17)]) X dX6_goesBy_89 rfl (kX6_indexOf l D E (((at_ / 21) - 30) + (tw (y % 20) - tw (y / 20))) (((at_ % 21) - 10) + (th (y % 20) - th (y / 20)))  ) (va_cwS 2 X.1.2.2.2.2 gX6_goesBy_X6_indexOf rfl rfl rfl (by decide +kernel) ⟨Nat.le_of_ble_eq_true rfl, Nat.le_of_ble_eq_true rfl⟩) rfl rfl (Nat.le_of_ble_eq_true rfl) (fun r89 u89 hp89 => ?_)
            replace hp89 := hp89.symm; subst hp89
            refine z_iald (pc' := 93) (f := σ 17) (n := 1281) X dX6_goesBy_92 rfl 13 rfl (by decide) (by omega) ?_
            refine z_aload_n (pc' := 94) X dX6_goesBy_93 rfl 5 rfl rfl ?_
            refine z_get (pc' := 97) (C := RX6) (ref := "PivotBeatsModel") (T := TX6) (N := 19) (v := .ref (q 17)) X dX6_goesBy_94 rfl hin6 0 rfl rfl 17 (by decide) (by decide +kernel) rfl rfl ?_
            refine z_iload_n (pc' := 98) X dX6_goesBy_97 rfl 6 rfl rfl ?_
            refine z_iald (pc' := 99) (f := σ 17) (n := 1281) X dX6_goesBy_98 rfl 13 rfl (by decide) (by omega) ?_
            refine z_iconst (pc' := 100) X dX6_goesBy_99 rfl ?_
            refine z_isub (pc' := 101) X dX6_goesBy_100 rfl ?_
            refine z_icmp_ne (tgt := 124) (pc' := 104) X dX6_goesBy_101 (by decide) rfl (by omega) (fun h101 => ?_) (fun h101 => ?_)
            · refine z_iinc (pc' := 127) (lv' := [(4, .int (jI (y + 1))), (8, .int (jI (((at_ % 21) - 10) + (th (y % 20) - th (y / 20))))), (7, .int (jI (((at_ / 21) - 30) + (tw (y % 20) - tw (y / 20))))), (6, .int (jI (y % 20))), (5, .int (jI (y / 20))), (0, .ref (q 0)), (1, .int (jI at_)), (2, .int (jI p_)), (3, .int (jI set))]) X dX6_goesBy_124 rfl 4 rfl (by decide) rfl ?_
              refine z_goto (tgt := 3) X dX6_goesBy_127 (by decide) ?_
              refine z_lv (lv' := [(4, .int (jI (y + 1))), (0, .ref (q 0)), (1, .int (jI at_)), (2, .int (jI p_)), (3, .int (jI set))]) [0, 5, 6, 7, 8] rfl ?_
              exact ih3 (y + 1)  (by first | exact ⟨by omega, gb_st g2 (fun z => hp64 ((isOf_iff (by omega)).mpr z.1))⟩ | exact ⟨by omega, gb_st g2 (fun z => hp75 z.2.1)⟩ | exact ⟨by omega, gb_st g2 (fun z => h101 z.2.2)⟩) (by omega)
            · refine z_aload_n (pc' := 105) X dX6_goesBy_104 rfl 5 rfl rfl ?_
              refine z_bipush (pc' := 107) X dX6_goesBy_105 rfl rfl ?_
              refine z_iload (pc' := 109) X dX6_goesBy_107 rfl 3 rfl ?_
              refine z_imul (pc' := 110) X dX6_goesBy_109 rfl ?_
              refine z_iload (pc' := 112) X dX6_goesBy_110 rfl 2 rfl ?_
              refine z_iadd (pc' := 113) X dX6_goesBy_112 rfl ?_
              refine z_put (pc' := 116) (C := RX6) (ref := "PivotBeatsModel") (T := TX6) (N := 19) (ty := .int) (w' := MW E q (up σ 18 0 ((100 * (y / 20)) + (y % 20)))) X dX6_goesBy_113 rfl hin6 tyX6 tyX6_ok nmX6 0 rfl rfl 18 (by decide) (by decide +kernel) rfl rfl (by decide +kernel) rfl rfl (Nat.le_of_ble_eq_true rfl) rfl ?_
              refine z_iload (pc' := 118) X dX6_goesBy_116 rfl 1 rfl ?_
              refine z_iload (pc' := 120) X dX6_goesBy_118 rfl 0 rfl ?_
              refine z_callPI (pc' := 123) (S := Unit) (As := [.int (jI (((at_ / 21) - 30) + (tw (y % 20) - tw (y / 20)))), .int (jI (((at_ % 21) - 10) + (th (y % 20) - th (y / 20))))]) (rest := []) X dX6_goesBy_120 rfl (kX6_indexOf l D E (((at_ / 21) - 30) + (tw (y % 20) - tw (y / 20))) (((at_ % 21) - 10) + (th (y % 20) - th (y / 20)))  ) (va_cwS 2 X.1.2.2.2.2 gX6_goesBy_X6_indexOf rfl rfl rfl (by decide +kernel) ⟨Nat.le_of_ble_eq_true rfl, Nat.le_of_ble_eq_true rfl⟩) rfl rfl (Nat.le_of_ble_eq_true rfl) (fun r120 u120 hp120 => ?_)
              replace hp120 := hp120.symm; subst hp120
              exact z_iret (post := (fun (rv : Int) (uu : St) => ((∀ F, F ≠ 18 → uu F = σ F) ∧ ((∃ c, (0 ≤ c ∧ c < 400) ∧ (stp set c ∧ inB p_ (at_ / 21 - 30 + dX c) (at_ % 21 - 10 + dY c) ∧ σ 17 (sIx (at_ / 21 - 30 + dX c) (at_ % 21 - 10 + dY c)) = σ 17 at_ - 1) ∧ (∀ c2, 0 ≤ c2 → c2 < c → ¬ (stp set c2 ∧ inB p_ (at_ / 21 - 30 + dX c2) (at_ % 21 - 10 + dY c2) ∧ σ 17 (sIx (at_ / 21 - 30 + dX c2) (at_ % 21 - 10 + dY c2)) = σ 17 at_ - 1)) ∧ uu 18 0 = 100 * (c / 20) + c % 20 ∧ rv = sIx (at_ / 21 - 30 + dX c) (at_ % 21 - 10 + dY c)) ∨ ((∀ c, 0 ≤ c → c < 400 → ¬ (stp set c ∧ inB p_ (at_ / 21 - 30 + dX c) (at_ % 21 - 10 + dY c) ∧ σ 17 (sIx (at_ / 21 - 30 + dX c) (at_ % 21 - 10 + dY c)) = σ 17 at_ - 1)) ∧ rv = at_))))) X dX6_goesBy_123 hret (up σ 18 0 ((100 * (y / 20)) + (y % 20))) (⟨fun F hF => by funext i; exact up_f _ _ _ _ hF, Or.inl ⟨y, by omega, ⟨(isOf_iff (by omega)).mp hp64, hp75, h101⟩, g2, up_s _ _ _ _, rfl⟩⟩)
          · refine z_if_eq (tgt := 124) (pc' := 81) X dX6_goesBy_78 (by decide) rfl (by omega) (fun _ => ?_) (fun h => absurd h (by decide))
            refine z_iinc (pc' := 127) (lv' := [(4, .int (jI (y + 1))), (8, .int (jI (((at_ % 21) - 10) + (th (y % 20) - th (y / 20))))), (7, .int (jI (((at_ / 21) - 30) + (tw (y % 20) - tw (y / 20))))), (6, .int (jI (y % 20))), (5, .int (jI (y / 20))), (0, .ref (q 0)), (1, .int (jI at_)), (2, .int (jI p_)), (3, .int (jI set))]) X dX6_goesBy_124 rfl 4 rfl (by decide) rfl ?_
            refine z_goto (tgt := 3) X dX6_goesBy_127 (by decide) ?_
            refine z_lv (lv' := [(4, .int (jI (y + 1))), (0, .ref (q 0)), (1, .int (jI at_)), (2, .int (jI p_)), (3, .int (jI set))]) [0, 5, 6, 7, 8] rfl ?_
            exact ih3 (y + 1)  (by first | exact ⟨by omega, gb_st g2 (fun z => hp64 ((isOf_iff (by omega)).mpr z.1))⟩ | exact ⟨by omega, gb_st g2 (fun z => hp75 z.2.1)⟩ | exact ⟨by omega, gb_st g2 (fun z => h101 z.2.2)⟩) (by omega)
        · refine z_if_eq (tgt := 124) (pc' := 70) X dX6_goesBy_67 (by decide) rfl (by omega) (fun _ => ?_) (fun h => absurd h (by decide))
          refine z_iinc (pc' := 127) (lv' := [(4, .int (jI (y + 1))), (8, .int (jI (((at_ % 21) - 10) + (th (y % 20) - th (y / 20))))), (7, .int (jI (((at_ / 21) - 30) + (tw (y % 20) - tw (y / 20))))), (6, .int (jI (y % 20))), (5, .int (jI (y / 20))), (0, .ref (q 0)), (1, .int (jI at_)), (2, .int (jI p_)), (3, .int (jI set))]) X dX6_goesBy_124 rfl 4 rfl (by decide) rfl ?_
          refine z_goto (tgt := 3) X dX6_goesBy_127 (by decide) ?_
          refine z_lv (lv' := [(4, .int (jI (y + 1))), (0, .ref (q 0)), (1, .int (jI at_)), (2, .int (jI p_)), (3, .int (jI set))]) [0, 5, 6, 7, 8] rfl ?_
          exact ih3 (y + 1)  (by first | exact ⟨by omega, gb_st g2 (fun z => hp64 ((isOf_iff (by omega)).mpr z.1))⟩ | exact ⟨by omega, gb_st g2 (fun z => hp75 z.2.1)⟩ | exact ⟨by omega, gb_st g2 (fun z => h101 z.2.2)⟩) (by omega)
  exact lp3 _ 0  (⟨by omega, fun c h1 h2 => by omega⟩) (Nat.lt_succ_self _)
set_option maxHeartbeats 4000000 in
set_option maxRecDepth 100000 in
theorem kX6_findSteps (l : Launch) (D : va_G) (E : Nat → Nat) (q : Nat → Nat) (σ : St) (p_ q_ set : Int) (hr : (20 ≤ p_ ∧ p_ ≤ 400) ∧ (0 ≤ set ∧ set ≤ 1048575) ∧ (20 ≤ q_ ∧ q_ ≤ 400)) : CtI l D E yX6_findSteps wsX6_findSteps ({ frames := 3, cells := 0, slots := 0, locals := 79 } : Room) [.ref (q 0), .int (jI p_), .int (jI q_), .int (jI set)] (MW E q σ) (MW E q) (fun (rv : Int) (uu : St) => ((∀ F, F ≠ 17 → uu F = σ F) ∧ (((∀ X Y, TG p_ q_ X Y → ¬ rch p_ set X Y 5 0 0) ∧ rv = -9) ∨ (∃ X Y, TG p_ q_ X Y ∧ ∃ d n : Nat, d ≤ n ∧ n ≤ 5 ∧ rv = d ∧ lv p_ set X Y d 0 0 ∧ LVS p_ set X Y uu n)))) := by
  refine mk_I (cc := cX6_findSteps) (maxL := 10) (ret := some .int) (by decide) rfl (Nat.le_of_ble_eq_true rfl) ?_
  intro p e s m args below meth c A X hret
  have hin6 : ∀ x ∈ u_ws RX6 TX6 19, x ∈ wsX6_findSteps := fun _ h => List.mem_cons_of_mem _ (List.mem_append_right _ h)
  refine z_lv (lv' := [(0, .ref (q 0)), (1, .int (jI p_)), (2, .int (jI q_)), (3, .int (jI set))]) [0, 1, 2, 3] rfl ?_
  have hg := gcdI_pos (a := p_) (b := q_) (by omega)
  have hg2 := gcdI_le (a := p_) (b := q_) (by omega)
  have rg := red_gq (p := p_) (q := q_) (by omega) (by omega)
  have t1 := tin_bd (v := q_ / gcdI p_ q_) (by omega)
  have t2 := tin_bd (v := p_ / gcdI p_ q_) (by omega)
  have pw1 := pU_bd9 (X := (tin 2 (q_ / gcdI p_ q_) - tin 2 (p_ / gcdI p_ q_))) (Y := (tin 3 (q_ / gcdI p_ q_) - tin 3 (p_ / gcdI p_ q_))) (by omega) (by omega)
  have pw2 := pU_bd9 (X := -(tin 2 (q_ / gcdI p_ q_) - tin 2 (p_ / gcdI p_ q_))) (Y := -(tin 3 (q_ / gcdI p_ q_) - tin 3 (p_ / gcdI p_ q_))) (by omega) (by omega)
  refine z_iload_n (pc' := 1) X dX6_findSteps_0 rfl 1 rfl rfl ?_
  refine z_i2l (pc' := 2) X dX6_findSteps_1 rfl (by omega) ?_
  refine z_iload_n (pc' := 3) X dX6_findSteps_2 rfl 2 rfl rfl ?_
  refine z_i2l (pc' := 4) X dX6_findSteps_3 rfl (by omega) ?_
  refine z_callPL (pc' := 7) (S := Unit) (As := [.long (jL p_), .long (jL q_)]) (rest := []) X dX6_findSteps_4 rfl (kX6_common l D E p_ q_  (by omega)) (va_cwS 2 X.1.2.2.2.2 gX6_findSteps_X6_common rfl rfl rfl (by decide +kernel) ⟨Nat.le_of_ble_eq_true rfl, Nat.le_of_ble_eq_true rfl⟩) rfl rfl (Nat.le_of_ble_eq_true rfl) (fun r4 u4 hp4 => ?_)
  replace hp4 := hp4.symm; subst hp4
  refine z_l2i (pc' := 8) X dX6_findSteps_7 rfl ?_
  refine z_istore (pc' := 10) (lv' := [(4, .int (jI (gcdI p_ q_))), (0, .ref (q 0)), (1, .int (jI p_)), (2, .int (jI q_)), (3, .int (jI set))]) X dX6_findSteps_8 rfl (by decide) rfl ?_
  refine z_iload_n (pc' := 11) X dX6_findSteps_10 rfl 3 rfl rfl ?_
  refine z_iload (pc' := 13) X dX6_findSteps_11 rfl 0 rfl ?_
  refine z_idiv (pc' := 14) X dX6_findSteps_13 rfl (by omega) ?_
  refine z_istore (pc' := 16) (lv' := [(5, .int (jI (q_ / (gcdI p_ q_)))), (4, .int (jI (gcdI p_ q_))), (0, .ref (q 0)), (1, .int (jI p_)), (2, .int (jI q_)), (3, .int (jI set))]) X dX6_findSteps_14 rfl (by decide) rfl ?_
  refine z_iload_n (pc' := 17) X dX6_findSteps_16 rfl 3 rfl rfl ?_
  refine z_iload (pc' := 19) X dX6_findSteps_17 rfl 1 rfl ?_
  refine z_idiv (pc' := 20) X dX6_findSteps_19 rfl (by omega) ?_
  refine z_istore (pc' := 22) (lv' := [(6, .int (jI (p_ / (gcdI p_ q_)))), (5, .int (jI (q_ / (gcdI p_ q_)))), (4, .int (jI (gcdI p_ q_))), (0, .ref (q 0)), (1, .int (jI p_)), (2, .int (jI q_)), (3, .int (jI set))]) X dX6_findSteps_20 rfl (by decide) rfl ?_
  refine z_iload (pc' := 24) X dX6_findSteps_22 rfl 1 rfl ?_
  refine z_iconst (pc' := 25) X dX6_findSteps_24 rfl ?_
  refine z_callPI (pc' := 28) (S := Unit) (As := [.int (jI (q_ / (gcdI p_ q_))), .int (jI 2)]) (rest := []) X dX6_findSteps_25 rfl (kX6_timesIn l D E (q_ / (gcdI p_ q_)) 2  (by omega)) (va_cwS 2 X.1.2.2.2.2 gX6_findSteps_X6_timesIn rfl rfl rfl (by decide +kernel) ⟨Nat.le_of_ble_eq_true rfl, Nat.le_of_ble_eq_true rfl⟩) rfl rfl (Nat.le_of_ble_eq_true rfl) (fun r25 u25 hp25 => ?_)
  replace hp25 := hp25.symm; subst hp25
  refine z_iload (pc' := 30) X dX6_findSteps_28 rfl 0 rfl ?_
  refine z_iconst (pc' := 31) X dX6_findSteps_30 rfl ?_
  refine z_callPI (pc' := 34) (S := Unit) (As := [.int (jI (p_ / (gcdI p_ q_))), .int (jI 2)]) (rest := [.int (jI (tin 2 (q_ / (gcdI p_ q_))))]) X dX6_findSteps_31 rfl (kX6_timesIn l D E (p_ / (gcdI p_ q_)) 2  (by omega)) (va_cwS 2 X.1.2.2.2.2 gX6_findSteps_X6_timesIn rfl rfl rfl (by decide +kernel) ⟨Nat.le_of_ble_eq_true rfl, Nat.le_of_ble_eq_true rfl⟩) rfl rfl (Nat.le_of_ble_eq_true rfl) (fun r31 u31 hp31 => ?_)
  replace hp31 := hp31.symm; subst hp31
  refine z_isub (pc' := 35) X dX6_findSteps_34 rfl ?_
  refine z_istore (pc' := 37) (lv' := [(7, .int (jI ((tin 2 (q_ / (gcdI p_ q_))) - (tin 2 (p_ / (gcdI p_ q_)))))), (6, .int (jI (p_ / (gcdI p_ q_)))), (5, .int (jI (q_ / (gcdI p_ q_)))), (4, .int (jI (gcdI p_ q_))), (0, .ref (q 0)), (1, .int (jI p_)), (2, .int (jI q_)), (3, .int (jI set))]) X dX6_findSteps_35 rfl (by decide) rfl ?_
  refine z_iload (pc' := 39) X dX6_findSteps_37 rfl 2 rfl ?_
  refine z_iconst (pc' := 40) X dX6_findSteps_39 rfl ?_
  refine z_callPI (pc' := 43) (S := Unit) (As := [.int (jI (q_ / (gcdI p_ q_))), .int (jI 3)]) (rest := []) X dX6_findSteps_40 rfl (kX6_timesIn l D E (q_ / (gcdI p_ q_)) 3  (by omega)) (va_cwS 2 X.1.2.2.2.2 gX6_findSteps_X6_timesIn rfl rfl rfl (by decide +kernel) ⟨Nat.le_of_ble_eq_true rfl, Nat.le_of_ble_eq_true rfl⟩) rfl rfl (Nat.le_of_ble_eq_true rfl) (fun r40 u40 hp40 => ?_)
  replace hp40 := hp40.symm; subst hp40
  refine z_iload (pc' := 45) X dX6_findSteps_43 rfl 1 rfl ?_
  refine z_iconst (pc' := 46) X dX6_findSteps_45 rfl ?_
  refine z_callPI (pc' := 49) (S := Unit) (As := [.int (jI (p_ / (gcdI p_ q_))), .int (jI 3)]) (rest := [.int (jI (tin 3 (q_ / (gcdI p_ q_))))]) X dX6_findSteps_46 rfl (kX6_timesIn l D E (p_ / (gcdI p_ q_)) 3  (by omega)) (va_cwS 2 X.1.2.2.2.2 gX6_findSteps_X6_timesIn rfl rfl rfl (by decide +kernel) ⟨Nat.le_of_ble_eq_true rfl, Nat.le_of_ble_eq_true rfl⟩) rfl rfl (Nat.le_of_ble_eq_true rfl) (fun r46 u46 hp46 => ?_)
  replace hp46 := hp46.symm; subst hp46
  refine z_isub (pc' := 50) X dX6_findSteps_49 rfl ?_
  refine z_istore (pc' := 52) (lv' := [(8, .int (jI ((tin 3 (q_ / (gcdI p_ q_))) - (tin 3 (p_ / (gcdI p_ q_)))))), (7, .int (jI ((tin 2 (q_ / (gcdI p_ q_))) - (tin 2 (p_ / (gcdI p_ q_)))))), (6, .int (jI (p_ / (gcdI p_ q_)))), (5, .int (jI (q_ / (gcdI p_ q_)))), (4, .int (jI (gcdI p_ q_))), (0, .ref (q 0)), (1, .int (jI p_)), (2, .int (jI q_)), (3, .int (jI set))]) X dX6_findSteps_50 rfl (by decide) rfl ?_
  refine z_iload (pc' := 54) X dX6_findSteps_52 rfl 3 rfl ?_
  refine z_i2l (pc' := 55) X dX6_findSteps_54 rfl (by omega) ?_
  refine z_iconst (pc' := 56) X dX6_findSteps_55 rfl ?_
  refine z_iload (pc' := 58) X dX6_findSteps_56 rfl 1 rfl ?_
  have jn67 : ∀ (v67 : Int), (v67.toNat = (tin 2 (q_ / gcdI p_ q_) - tin 2 (p_ / gcdI p_ q_)).toNat ∧ -2147483648 ≤ v67 ∧ v67 < 2147483648) → J p l e (headSpec wsX6_findSteps ({ frames := 3, cells := 0, slots := 0, locals := 79 } : Room)).room s m args below meth c D A 10 (MQ below (va_Qi (fun r u => ∃ x, r = jI x ∧ (fun (rv : Int) (uu : St) => ((∀ F, F ≠ 17 → uu F = σ F) ∧ (((∀ X Y, TG p_ q_ X Y → ¬ rch p_ set X Y 5 0 0) ∧ rv = -9) ∨ (∃ X Y, TG p_ q_ X Y ∧ ∃ d n : Nat, d ≤ n ∧ n ≤ 5 ∧ rv = d ∧ lv p_ set X Y d 0 0 ∧ LVS p_ set X Y uu n)))) x u) (Bw D (MW E q) A) A) args s 0 0 A) 67 [(8, .int (jI ((tin 3 (q_ / (gcdI p_ q_))) - (tin 3 (p_ / (gcdI p_ q_)))))), (7, .int (jI ((tin 2 (q_ / (gcdI p_ q_))) - (tin 2 (p_ / (gcdI p_ q_)))))), (6, .int (jI (p_ / (gcdI p_ q_)))), (5, .int (jI (q_ / (gcdI p_ q_)))), (4, .int (jI (gcdI p_ q_))), (0, .ref (q 0)), (1, .int (jI p_)), (2, .int (jI q_)), (3, .int (jI set))] [.int (jI v67), .int (jI 2), .long (jL (q_ / (gcdI p_ q_)))] (MW E q σ) := by
    intro v67 hj67
    refine z_callPL (pc' := 70) (S := Unit) (As := [.int (jI 2), .int (jI v67)]) (rest := [.long (jL (q_ / (gcdI p_ q_)))]) X dX6_findSteps_67 rfl (kX6_power l D E 2 v67  (by omega)) (va_cwS 2 X.1.2.2.2.2 gX6_findSteps_X6_power rfl rfl rfl (by decide +kernel) ⟨Nat.le_of_ble_eq_true rfl, Nat.le_of_ble_eq_true rfl⟩) rfl rfl (Nat.le_of_ble_eq_true rfl) (fun r67 u67 hp67 => ?_)
    replace hp67 := hp67.symm; subst hp67
    refine z_iconst (pc' := 71) X dX6_findSteps_70 rfl ?_
    refine z_iload (pc' := 73) X dX6_findSteps_71 rfl 0 rfl ?_
    have jn82 : ∀ (v82 : Int), (v82.toNat = (tin 3 (q_ / gcdI p_ q_) - tin 3 (p_ / gcdI p_ q_)).toNat ∧ -2147483648 ≤ v82 ∧ v82 < 2147483648) → J p l e (headSpec wsX6_findSteps ({ frames := 3, cells := 0, slots := 0, locals := 79 } : Room)).room s m args below meth c D A 10 (MQ below (va_Qi (fun r u => ∃ x, r = jI x ∧ (fun (rv : Int) (uu : St) => ((∀ F, F ≠ 17 → uu F = σ F) ∧ (((∀ X Y, TG p_ q_ X Y → ¬ rch p_ set X Y 5 0 0) ∧ rv = -9) ∨ (∃ X Y, TG p_ q_ X Y ∧ ∃ d n : Nat, d ≤ n ∧ n ≤ 5 ∧ rv = d ∧ lv p_ set X Y d 0 0 ∧ LVS p_ set X Y uu n)))) x u) (Bw D (MW E q) A) A) args s 0 0 A) 82 [(8, .int (jI ((tin 3 (q_ / (gcdI p_ q_))) - (tin 3 (p_ / (gcdI p_ q_)))))), (7, .int (jI ((tin 2 (q_ / (gcdI p_ q_))) - (tin 2 (p_ / (gcdI p_ q_)))))), (6, .int (jI (p_ / (gcdI p_ q_)))), (5, .int (jI (q_ / (gcdI p_ q_)))), (4, .int (jI (gcdI p_ q_))), (0, .ref (q 0)), (1, .int (jI p_)), (2, .int (jI q_)), (3, .int (jI set))] [.int (jI v82), .int (jI 3), .long (jL (2 ^ v67.toNat)), .long (jL (q_ / (gcdI p_ q_)))] (MW E q σ) := by
      intro v82 hj82
      refine z_callPL (pc' := 85) (S := Unit) (As := [.int (jI 3), .int (jI v82)]) (rest := [.long (jL (2 ^ v67.toNat)), .long (jL (q_ / (gcdI p_ q_)))]) X dX6_findSteps_82 rfl (kX6_power l D E 3 v82  (by omega)) (va_cwS 2 X.1.2.2.2.2 gX6_findSteps_X6_power rfl rfl rfl (by decide +kernel) ⟨Nat.le_of_ble_eq_true rfl, Nat.le_of_ble_eq_true rfl⟩) rfl rfl (Nat.le_of_ble_eq_true rfl) (fun r82 u82 hp82 => ?_)
      replace hp82 := hp82.symm; subst hp82
      refine z_lmul (pc' := 86) X dX6_findSteps_85 rfl ?_
      refine z_lcmp_ne (tgt := 130) (pc' := 90) X dX6_findSteps_86 (pc1 := 87) rfl dX6_findSteps_87 (by decide) rfl (by (rw [hj67.1, hj82.1]; unfold pU at pw1; omega)) (fun h86 => ?_) (fun h86 => ?_)
      · refine z_bipush (pc' := 132) X dX6_findSteps_130 rfl rfl ?_
        exact z_iret (post := (fun (rv : Int) (uu : St) => ((∀ F, F ≠ 17 → uu F = σ F) ∧ (((∀ X Y, TG p_ q_ X Y → ¬ rch p_ set X Y 5 0 0) ∧ rv = -9) ∨ (∃ X Y, TG p_ q_ X Y ∧ ∃ d n : Nat, d ≤ n ∧ n ≤ 5 ∧ rv = d ∧ lv p_ set X Y d 0 0 ∧ LVS p_ set X Y uu n))))) X dX6_findSteps_132 hret σ (⟨fun _ _ => rfl, Or.inl ⟨fun X Y hT => absurd (fs_no hr.1 hr.2.2 hT rg) (by first | (intro z; exact h86 (by rw [hj67.1, hj82.1]; exact z.1)) | (intro z; exact h126 (by rw [hj106.1, hj122.1]; exact z.2))), rfl⟩⟩)
      · refine z_iload (pc' := 92) X dX6_findSteps_90 rfl 2 rfl ?_
        refine z_i2l (pc' := 93) X dX6_findSteps_92 rfl (by omega) ?_
        refine z_iconst (pc' := 94) X dX6_findSteps_93 rfl ?_
        refine z_iload (pc' := 96) X dX6_findSteps_94 rfl 1 rfl ?_
        have jn106 : ∀ (v106 : Int), (v106.toNat = (-(tin 2 (q_ / gcdI p_ q_) - tin 2 (p_ / gcdI p_ q_))).toNat ∧ -2147483648 ≤ v106 ∧ v106 < 2147483648) → J p l e (headSpec wsX6_findSteps ({ frames := 3, cells := 0, slots := 0, locals := 79 } : Room)).room s m args below meth c D A 10 (MQ below (va_Qi (fun r u => ∃ x, r = jI x ∧ (fun (rv : Int) (uu : St) => ((∀ F, F ≠ 17 → uu F = σ F) ∧ (((∀ X Y, TG p_ q_ X Y → ¬ rch p_ set X Y 5 0 0) ∧ rv = -9) ∨ (∃ X Y, TG p_ q_ X Y ∧ ∃ d n : Nat, d ≤ n ∧ n ≤ 5 ∧ rv = d ∧ lv p_ set X Y d 0 0 ∧ LVS p_ set X Y uu n)))) x u) (Bw D (MW E q) A) A) args s 0 0 A) 106 [(8, .int (jI ((tin 3 (q_ / (gcdI p_ q_))) - (tin 3 (p_ / (gcdI p_ q_)))))), (7, .int (jI ((tin 2 (q_ / (gcdI p_ q_))) - (tin 2 (p_ / (gcdI p_ q_)))))), (6, .int (jI (p_ / (gcdI p_ q_)))), (5, .int (jI (q_ / (gcdI p_ q_)))), (4, .int (jI (gcdI p_ q_))), (0, .ref (q 0)), (1, .int (jI p_)), (2, .int (jI q_)), (3, .int (jI set))] [.int (jI v106), .int (jI 2), .long (jL (p_ / (gcdI p_ q_)))] (MW E q σ) := by
          intro v106 hj106
          refine z_callPL (pc' := 109) (S := Unit) (As := [.int (jI 2), .int (jI v106)]) (rest := [.long (jL (p_ / (gcdI p_ q_)))]) X dX6_findSteps_106 rfl (kX6_power l D E 2 v106  (by omega)) (va_cwS 2 X.1.2.2.2.2 gX6_findSteps_X6_power rfl rfl rfl (by decide +kernel) ⟨Nat.le_of_ble_eq_true rfl, Nat.le_of_ble_eq_true rfl⟩) rfl rfl (Nat.le_of_ble_eq_true rfl) (fun r106 u106 hp106 => ?_)
          replace hp106 := hp106.symm; subst hp106
          refine z_iconst (pc' := 110) X dX6_findSteps_109 rfl ?_
          refine z_iload (pc' := 112) X dX6_findSteps_110 rfl 0 rfl ?_
          have jn122 : ∀ (v122 : Int), (v122.toNat = (-(tin 3 (q_ / gcdI p_ q_) - tin 3 (p_ / gcdI p_ q_))).toNat ∧ -2147483648 ≤ v122 ∧ v122 < 2147483648) → J p l e (headSpec wsX6_findSteps ({ frames := 3, cells := 0, slots := 0, locals := 79 } : Room)).room s m args below meth c D A 10 (MQ below (va_Qi (fun r u => ∃ x, r = jI x ∧ (fun (rv : Int) (uu : St) => ((∀ F, F ≠ 17 → uu F = σ F) ∧ (((∀ X Y, TG p_ q_ X Y → ¬ rch p_ set X Y 5 0 0) ∧ rv = -9) ∨ (∃ X Y, TG p_ q_ X Y ∧ ∃ d n : Nat, d ≤ n ∧ n ≤ 5 ∧ rv = d ∧ lv p_ set X Y d 0 0 ∧ LVS p_ set X Y uu n)))) x u) (Bw D (MW E q) A) A) args s 0 0 A) 122 [(8, .int (jI ((tin 3 (q_ / (gcdI p_ q_))) - (tin 3 (p_ / (gcdI p_ q_)))))), (7, .int (jI ((tin 2 (q_ / (gcdI p_ q_))) - (tin 2 (p_ / (gcdI p_ q_)))))), (6, .int (jI (p_ / (gcdI p_ q_)))), (5, .int (jI (q_ / (gcdI p_ q_)))), (4, .int (jI (gcdI p_ q_))), (0, .ref (q 0)), (1, .int (jI p_)), (2, .int (jI q_)), (3, .int (jI set))] [.int (jI v122), .int (jI 3), .long (jL (2 ^ v106.toNat)), .long (jL (p_ / (gcdI p_ q_)))] (MW E q σ) := by
            intro v122 hj122
            refine z_callPL (pc' := 125) (S := Unit) (As := [.int (jI 3), .int (jI v122)]) (rest := [.long (jL (2 ^ v106.toNat)), .long (jL (p_ / (gcdI p_ q_)))]) X dX6_findSteps_122 rfl (kX6_power l D E 3 v122  (by omega)) (va_cwS 2 X.1.2.2.2.2 gX6_findSteps_X6_power rfl rfl rfl (by decide +kernel) ⟨Nat.le_of_ble_eq_true rfl, Nat.le_of_ble_eq_true rfl⟩) rfl rfl (Nat.le_of_ble_eq_true rfl) (fun r122 u122 hp122 => ?_)
            replace hp122 := hp122.symm; subst hp122
            refine z_lmul (pc' := 126) X dX6_findSteps_125 rfl ?_
            refine z_lcmp_eq (tgt := 133) (pc' := 130) X dX6_findSteps_126 (pc1 := 127) rfl dX6_findSteps_127 (by decide) rfl (by (rw [hj106.1, hj122.1]; unfold pU at pw2; omega)) (fun h126 => ?_) (fun h126 => ?_)
            · have hT : TG p_ q_ (tin 2 (q_ / gcdI p_ q_) - tin 2 (p_ / gcdI p_ q_)) (tin 3 (q_ / gcdI p_ q_) - tin 3 (p_ / gcdI p_ q_)) := fs_TG rg (by have z := h86; rw [hj67.1, hj82.1] at z; exact z) (by have z := h126; rw [hj106.1, hj122.1] at z; exact z)
              have hTG := TG_rng hr.1 hr.2.2 hT
              refine z_iconst (pc' := 134) X dX6_findSteps_133 rfl ?_
              refine z_istore (pc' := 136) (lv' := [(9, .int (jI 0)), (8, .int (jI ((tin 3 (q_ / (gcdI p_ q_))) - (tin 3 (p_ / (gcdI p_ q_)))))), (7, .int (jI ((tin 2 (q_ / (gcdI p_ q_))) - (tin 2 (p_ / (gcdI p_ q_)))))), (6, .int (jI (p_ / (gcdI p_ q_)))), (5, .int (jI (q_ / (gcdI p_ q_)))), (4, .int (jI (gcdI p_ q_))), (0, .ref (q 0)), (1, .int (jI p_)), (2, .int (jI q_)), (3, .int (jI set))]) X dX6_findSteps_134 rfl (by decide) rfl ?_
              have lp136 : ∀ (nF : Nat) (x : Int) (u1 : St) , ((0 ≤ x ∧ x ≤ 1281) ∧ (∀ F, F ≠ 17 → u1 F = σ F) ∧ ∀ i, 0 ≤ i → i < x → u1 17 i = -9) → ((1281 - x).toNat : Nat) < nF → J p l e (headSpec wsX6_findSteps ({ frames := 3, cells := 0, slots := 0, locals := 79 } : Room)).room s m args below meth c D A 10 (MQ below (va_Qi (fun r u => ∃ x, r = jI x ∧ (fun (rv : Int) (uu : St) => ((∀ F, F ≠ 17 → uu F = σ F) ∧ (((∀ X Y, TG p_ q_ X Y → ¬ rch p_ set X Y 5 0 0) ∧ rv = -9) ∨ (∃ X Y, TG p_ q_ X Y ∧ ∃ d n : Nat, d ≤ n ∧ n ≤ 5 ∧ rv = d ∧ lv p_ set X Y d 0 0 ∧ LVS p_ set X Y uu n)))) x u) (Bw D (MW E q) A) A) args s 0 0 A) 136 [(9, .int (jI x)), (8, .int (jI ((tin 3 (q_ / (gcdI p_ q_))) - (tin 3 (p_ / (gcdI p_ q_)))))), (7, .int (jI ((tin 2 (q_ / (gcdI p_ q_))) - (tin 2 (p_ / (gcdI p_ q_)))))), (6, .int (jI (p_ / (gcdI p_ q_)))), (5, .int (jI (q_ / (gcdI p_ q_)))), (4, .int (jI (gcdI p_ q_))), (0, .ref (q 0)), (1, .int (jI p_)), (2, .int (jI q_)), (3, .int (jI set))] [] (MW E q u1) := by
                intro nF
                induction nF with
                | zero => intro x u1  hI hn; exact absurd hn (Nat.not_lt_zero _)
                | succ nF ih136 =>
                  intro x u1  hI hn
                  obtain ⟨h1, h2, h3⟩ := hI
                  refine z_iload (pc' := 138) X dX6_findSteps_136 rfl 0 rfl ?_
                  refine z_sipush (pc' := 141) X dX6_findSteps_138 rfl rfl ?_
                  refine z_icmp_ge (tgt := 159) (pc' := 144) X dX6_findSteps_141 (by decide) rfl (by omega) (fun h141 => ?_) (fun h141 => ?_)
                  · refine z_aload_n (pc' := 160) X dX6_findSteps_159 rfl 6 rfl rfl ?_
                    refine z_get (pc' := 163) (C := RX6) (ref := "PivotBeatsModel") (T := TX6) (N := 19) (v := .ref (q 17)) X dX6_findSteps_160 rfl hin6 0 rfl rfl 17 (by decide) (by decide +kernel) rfl rfl ?_
                    refine z_iload (pc' := 165) X dX6_findSteps_163 rfl 2 rfl ?_
                    refine z_iload (pc' := 167) X dX6_findSteps_165 rfl 1 rfl ?_
                    refine z_callPI (pc' := 170) (S := Unit) (As := [.int (jI ((tin 2 (q_ / (gcdI p_ q_))) - (tin 2 (p_ / (gcdI p_ q_))))), .int (jI ((tin 3 (q_ / (gcdI p_ q_))) - (tin 3 (p_ / (gcdI p_ q_)))))]) (rest := [.ref (q 17)]) X dX6_findSteps_167 rfl (kX6_indexOf l D E ((tin 2 (q_ / (gcdI p_ q_))) - (tin 2 (p_ / (gcdI p_ q_)))) ((tin 3 (q_ / (gcdI p_ q_))) - (tin 3 (p_ / (gcdI p_ q_))))  ) (va_cwS 2 X.1.2.2.2.2 gX6_findSteps_X6_indexOf rfl rfl rfl (by decide +kernel) ⟨Nat.le_of_ble_eq_true rfl, Nat.le_of_ble_eq_true rfl⟩) rfl rfl (Nat.le_of_ble_eq_true rfl) (fun r167 u167 hp167 => ?_)
                    replace hp167 := hp167.symm; subst hp167
                    refine z_iconst (pc' := 171) X dX6_findSteps_170 rfl ?_
                    refine z_iast (pc' := 172) (f := u1 17) (n := 1281) (w' := MW E q (up u1 17 (21 * (((tin 2 (q_ / (gcdI p_ q_))) - (tin 2 (p_ / (gcdI p_ q_)))) + 30) + ((tin 3 (q_ / (gcdI p_ q_))) - (tin 3 (p_ / (gcdI p_ q_)))) + 10) 0)) X dX6_findSteps_171 rfl 13 rfl (by decide) (by omega) rfl ?_
                    refine z_iconst (pc' := 173) X dX6_findSteps_172 rfl ?_
                    refine z_istore (pc' := 175) (lv' := [(9, .int (jI 0)), (8, .int (jI ((tin 3 (q_ / (gcdI p_ q_))) - (tin 3 (p_ / (gcdI p_ q_)))))), (7, .int (jI ((tin 2 (q_ / (gcdI p_ q_))) - (tin 2 (p_ / (gcdI p_ q_)))))), (6, .int (jI (p_ / (gcdI p_ q_)))), (5, .int (jI (q_ / (gcdI p_ q_)))), (4, .int (jI (gcdI p_ q_))), (0, .ref (q 0)), (1, .int (jI p_)), (2, .int (jI q_)), (3, .int (jI set))]) X dX6_findSteps_173 rfl (by decide) rfl ?_
                    have lp175 : ∀ (nF : Nat) (steps : Int) (u2 : St) , ((0 ≤ steps ∧ steps ≤ 5) ∧ (∀ F, F ≠ 17 → u2 F = σ F) ∧ LVS p_ set (tin 2 (q_ / gcdI p_ q_) - tin 2 (p_ / gcdI p_ q_)) (tin 3 (q_ / gcdI p_ q_) - tin 3 (p_ / gcdI p_ q_)) u2 steps.toNat) → ((5 - steps).toNat : Nat) < nF → J p l e (headSpec wsX6_findSteps ({ frames := 3, cells := 0, slots := 0, locals := 79 } : Room)).room s m args below meth c D A 10 (MQ below (va_Qi (fun r u => ∃ x, r = jI x ∧ (fun (rv : Int) (uu : St) => ((∀ F, F ≠ 17 → uu F = σ F) ∧ (((∀ X Y, TG p_ q_ X Y → ¬ rch p_ set X Y 5 0 0) ∧ rv = -9) ∨ (∃ X Y, TG p_ q_ X Y ∧ ∃ d n : Nat, d ≤ n ∧ n ≤ 5 ∧ rv = d ∧ lv p_ set X Y d 0 0 ∧ LVS p_ set X Y uu n)))) x u) (Bw D (MW E q) A) A) args s 0 0 A) 175 [(9, .int (jI steps)), (8, .int (jI ((tin 3 (q_ / (gcdI p_ q_))) - (tin 3 (p_ / (gcdI p_ q_)))))), (7, .int (jI ((tin 2 (q_ / (gcdI p_ q_))) - (tin 2 (p_ / (gcdI p_ q_)))))), (6, .int (jI (p_ / (gcdI p_ q_)))), (5, .int (jI (q_ / (gcdI p_ q_)))), (4, .int (jI (gcdI p_ q_))), (0, .ref (q 0)), (1, .int (jI p_)), (2, .int (jI q_)), (3, .int (jI set))] [] (MW E q u2) := by
                      intro nF
                      induction nF with
                      | zero => intro steps u2  hI hn; exact absurd hn (Nat.not_lt_zero _)
                      | succ nF ih175 =>
                        intro steps u2  hI hn
                        obtain ⟨g1, g2, g3⟩ := hI
                        have r00 := LVS_rng g3 (by omega) (i := 21 * (0 + 30) + 0 + 10) (by omega) (by omega)
                        refine z_iload (pc' := 177) X dX6_findSteps_175 rfl 0 rfl ?_
                        refine z_iconst (pc' := 178) X dX6_findSteps_177 rfl ?_
                        refine z_icmp_ge (tgt := 210) (pc' := 181) X dX6_findSteps_178 (by decide) rfl (by omega) (fun h178 => ?_) (fun h178 => ?_)
                        · refine z_aload_n (pc' := 211) X dX6_findSteps_210 rfl 6 rfl rfl ?_
                          refine z_get (pc' := 214) (C := RX6) (ref := "PivotBeatsModel") (T := TX6) (N := 19) (v := .ref (q 17)) X dX6_findSteps_211 rfl hin6 0 rfl rfl 17 (by decide) (by decide +kernel) rfl rfl ?_
                          refine z_iconst (pc' := 215) X dX6_findSteps_214 rfl ?_
                          refine z_iconst (pc' := 216) X dX6_findSteps_215 rfl ?_
                          refine z_callPI (pc' := 219) (S := Unit) (As := [.int (jI 0), .int (jI 0)]) (rest := [.ref (q 17)]) X dX6_findSteps_216 rfl (kX6_indexOf l D E 0 0  ) (va_cwS 2 X.1.2.2.2.2 gX6_findSteps_X6_indexOf rfl rfl rfl (by decide +kernel) ⟨Nat.le_of_ble_eq_true rfl, Nat.le_of_ble_eq_true rfl⟩) rfl rfl (Nat.le_of_ble_eq_true rfl) (fun r216 u216 hp216 => ?_)
                          replace hp216 := hp216.symm; subst hp216
                          refine z_iald (pc' := 220) (f := u2 17) (n := 1281) X dX6_findSteps_219 rfl 13 rfl (by decide) (by omega) ?_
                          exact z_iret (post := (fun (rv : Int) (uu : St) => ((∀ F, F ≠ 17 → uu F = σ F) ∧ (((∀ X Y, TG p_ q_ X Y → ¬ rch p_ set X Y 5 0 0) ∧ rv = -9) ∨ (∃ X Y, TG p_ q_ X Y ∧ ∃ d n : Nat, d ≤ n ∧ n ≤ 5 ∧ rv = d ∧ lv p_ set X Y d 0 0 ∧ LVS p_ set X Y uu n))))) X dX6_findSteps_220 hret u2 (⟨g2, fs_end hr.1 hr.2.2 hT g3 (by omega) (by first | exact Or.inl (by omega) | exact Or.inr h193)⟩)
                        · refine z_aload_n (pc' := 182) X dX6_findSteps_181 rfl 6 rfl rfl ?_
                          refine z_get (pc' := 185) (C := RX6) (ref := "PivotBeatsModel") (T := TX6) (N := 19) (v := .ref (q 17)) X dX6_findSteps_182 rfl hin6 0 rfl rfl 17 (by decide) (by decide +kernel) rfl rfl ?_
                          refine z_iconst (pc' := 186) X dX6_findSteps_185 rfl ?_
                          refine z_iconst (pc' := 187) X dX6_findSteps_186 rfl ?_
                          refine z_callPI (pc' := 190) (S := Unit) (As := [.int (jI 0), .int (jI 0)]) (rest := [.ref (q 17)]) X dX6_findSteps_187 rfl (kX6_indexOf l D E 0 0  ) (va_cwS 2 X.1.2.2.2.2 gX6_findSteps_X6_indexOf rfl rfl rfl (by decide +kernel) ⟨Nat.le_of_ble_eq_true rfl, Nat.le_of_ble_eq_true rfl⟩) rfl rfl (Nat.le_of_ble_eq_true rfl) (fun r187 u187 hp187 => ?_)
                          replace hp187 := hp187.symm; subst hp187
                          refine z_iald (pc' := 191) (f := u2 17) (n := 1281) X dX6_findSteps_190 rfl 13 rfl (by decide) (by omega) ?_
                          refine z_bipush (pc' := 193) X dX6_findSteps_191 rfl rfl ?_
                          refine z_icmp_ne (tgt := 210) (pc' := 196) X dX6_findSteps_193 (by decide) rfl (by omega) (fun h193 => ?_) (fun h193 => ?_)
                          · refine z_aload_n (pc' := 211) X dX6_findSteps_210 rfl 6 rfl rfl ?_
                            refine z_get (pc' := 214) (C := RX6) (ref := "PivotBeatsModel") (T := TX6) (N := 19) (v := .ref (q 17)) X dX6_findSteps_211 rfl hin6 0 rfl rfl 17 (by decide) (by decide +kernel) rfl rfl ?_
                            refine z_iconst (pc' := 215) X dX6_findSteps_214 rfl ?_
                            refine z_iconst (pc' := 216) X dX6_findSteps_215 rfl ?_
                            refine z_callPI (pc' := 219) (S := Unit) (As := [.int (jI 0), .int (jI 0)]) (rest := [.ref (q 17)]) X dX6_findSteps_216 rfl (kX6_indexOf l D E 0 0  ) (va_cwS 2 X.1.2.2.2.2 gX6_findSteps_X6_indexOf rfl rfl rfl (by decide +kernel) ⟨Nat.le_of_ble_eq_true rfl, Nat.le_of_ble_eq_true rfl⟩) rfl rfl (Nat.le_of_ble_eq_true rfl) (fun r216 u216 hp216 => ?_)
                            replace hp216 := hp216.symm; subst hp216
                            refine z_iald (pc' := 220) (f := u2 17) (n := 1281) X dX6_findSteps_219 rfl 13 rfl (by decide) (by omega) ?_
                            exact z_iret (post := (fun (rv : Int) (uu : St) => ((∀ F, F ≠ 17 → uu F = σ F) ∧ (((∀ X Y, TG p_ q_ X Y → ¬ rch p_ set X Y 5 0 0) ∧ rv = -9) ∨ (∃ X Y, TG p_ q_ X Y ∧ ∃ d n : Nat, d ≤ n ∧ n ≤ 5 ∧ rv = d ∧ lv p_ set X Y d 0 0 ∧ LVS p_ set X Y uu n))))) X dX6_findSteps_220 hret u2 (⟨g2, fs_end hr.1 hr.2.2 hT g3 (by omega) (by first | exact Or.inl (by omega) | exact Or.inr h193)⟩)
                          · refine z_aload_n (pc' := 197) X dX6_findSteps_196 rfl 6 rfl rfl ?_
                            refine z_iload_n (pc' := 198) X dX6_findSteps_197 rfl 7 rfl rfl ?_
                            refine z_iload_n (pc' := 199) X dX6_findSteps_198 rfl 9 rfl rfl ?_
                            refine z_iload (pc' := 201) X dX6_findSteps_199 rfl 0 rfl ?_
                            refine z_callVV (pc' := 204) (S := St) (As := [.int (jI p_), .int (jI set), .int (jI steps)]) (rest := []) X dX6_findSteps_201 rfl (kX6_stepsMore l D E q u2 p_ set steps  (by omega) (fun i i0 i1 => LVS_rng g3 (by omega) i0 i1)) (cwV 3 X.1.2.2.2.2 gX6_findSteps_X6_stepsMore rfl rfl rfl (by decide +kernel) ⟨Nat.le_of_ble_eq_true rfl, Nat.le_of_ble_eq_true rfl⟩) 0 rfl rfl rfl rfl (Nat.le_of_ble_eq_true rfl) (fun u201 hp201 => ?_)
                            obtain ⟨hn201, hs1201, hs2201⟩ := hp201
                            refine z_iinc (pc' := 207) (lv' := [(9, .int (jI (steps + 1))), (8, .int (jI ((tin 3 (q_ / (gcdI p_ q_))) - (tin 3 (p_ / (gcdI p_ q_)))))), (7, .int (jI ((tin 2 (q_ / (gcdI p_ q_))) - (tin 2 (p_ / (gcdI p_ q_)))))), (6, .int (jI (p_ / (gcdI p_ q_)))), (5, .int (jI (q_ / (gcdI p_ q_)))), (4, .int (jI (gcdI p_ q_))), (0, .ref (q 0)), (1, .int (jI p_)), (2, .int (jI q_)), (3, .int (jI set))]) X dX6_findSteps_204 rfl 0 rfl (by decide) rfl ?_
                            refine z_goto (tgt := 175) X dX6_findSteps_207 (by decide) ?_
                            exact ih175 (steps + 1) u201  (⟨by omega, fun F hF => by rw [hn201 F hF, g2 F hF], by rw [show (steps + 1).toNat = steps.toNat + 1 by omega]; exact SM_end hTG.2.2 g3 (by rw [show ((steps.toNat : Nat) : Int) = steps by omega]; exact hs1201) (by rw [show ((steps.toNat : Nat) : Int) = steps by omega]; exact hs2201)⟩) (by omega)
                    exact lp175 _ 0 (up u1 17 (21 * (((tin 2 (q_ / (gcdI p_ q_))) - (tin 2 (p_ / (gcdI p_ q_)))) + 30) + ((tin 3 (q_ / (gcdI p_ q_))) - (tin 3 (p_ / (gcdI p_ q_)))) + 10) 0)  (⟨by omega, fun F hF => by rw [← h2 F hF]; funext i; exact up_f _ _ _ _ hF, LVS_0 (by omega) (by omega) (fun i i0 i1 => h3 i i0 (by omega)) rfl⟩) (Nat.lt_succ_self _)
                  · refine z_aload_n (pc' := 145) X dX6_findSteps_144 rfl 6 rfl rfl ?_
                    refine z_get (pc' := 148) (C := RX6) (ref := "PivotBeatsModel") (T := TX6) (N := 19) (v := .ref (q 17)) X dX6_findSteps_145 rfl hin6 0 rfl rfl 17 (by decide) (by decide +kernel) rfl rfl ?_
                    refine z_iload (pc' := 150) X dX6_findSteps_148 rfl 0 rfl ?_
                    refine z_bipush (pc' := 152) X dX6_findSteps_150 rfl rfl ?_
                    refine z_iast (pc' := 153) (f := u1 17) (n := 1281) (w' := MW E q (up u1 17 x (-9))) X dX6_findSteps_152 rfl 13 rfl (by decide) (by omega) rfl ?_
                    refine z_iinc (pc' := 156) (lv' := [(9, .int (jI (x + 1))), (8, .int (jI ((tin 3 (q_ / (gcdI p_ q_))) - (tin 3 (p_ / (gcdI p_ q_)))))), (7, .int (jI ((tin 2 (q_ / (gcdI p_ q_))) - (tin 2 (p_ / (gcdI p_ q_)))))), (6, .int (jI (p_ / (gcdI p_ q_)))), (5, .int (jI (q_ / (gcdI p_ q_)))), (4, .int (jI (gcdI p_ q_))), (0, .ref (q 0)), (1, .int (jI p_)), (2, .int (jI q_)), (3, .int (jI set))]) X dX6_findSteps_153 rfl 0 rfl (by decide) rfl ?_
                    refine z_goto (tgt := 136) X dX6_findSteps_156 (by decide) ?_
                    exact ih136 (x + 1) (up u1 17 x (-9))  (⟨by omega, fun F hF => by rw [← h2 F hF]; funext i; exact up_f _ _ _ _ hF, fill_st h3⟩) (by omega)
              exact lp136 _ 0 σ  (⟨by omega, fun _ _ => rfl, fun i h1 h2 => by omega⟩) (Nat.lt_succ_self _)
            · refine z_bipush (pc' := 132) X dX6_findSteps_130 rfl rfl ?_
              exact z_iret (post := (fun (rv : Int) (uu : St) => ((∀ F, F ≠ 17 → uu F = σ F) ∧ (((∀ X Y, TG p_ q_ X Y → ¬ rch p_ set X Y 5 0 0) ∧ rv = -9) ∨ (∃ X Y, TG p_ q_ X Y ∧ ∃ d n : Nat, d ≤ n ∧ n ≤ 5 ∧ rv = d ∧ lv p_ set X Y d 0 0 ∧ LVS p_ set X Y uu n))))) X dX6_findSteps_132 hret σ (⟨fun _ _ => rfl, Or.inl ⟨fun X Y hT => absurd (fs_no hr.1 hr.2.2 hT rg) (by first | (intro z; exact h86 (by rw [hj67.1, hj82.1]; exact z.1)) | (intro z; exact h126 (by rw [hj106.1, hj122.1]; exact z.2))), rfl⟩⟩)
          refine z_if_ge (tgt := 121) (pc' := 115) X dX6_findSteps_112 (by decide) rfl (by omega) (fun h112 => ?_) (fun h112 => ?_)
          · refine z_iconst (pc' := 122) X dX6_findSteps_121 rfl ?_
            exact jn122 0 (by omega)
          · refine z_iload (pc' := 117) X dX6_findSteps_115 rfl 0 rfl ?_
            refine z_ineg (pc' := 118) X dX6_findSteps_117 rfl ?_
            refine z_goto (tgt := 122) X dX6_findSteps_118 (by decide) ?_
            exact jn122 (-((tin 3 (q_ / (gcdI p_ q_))) - (tin 3 (p_ / (gcdI p_ q_))))) (by omega)
        refine z_if_ge (tgt := 105) (pc' := 99) X dX6_findSteps_96 (by decide) rfl (by omega) (fun h96 => ?_) (fun h96 => ?_)
        · refine z_iconst (pc' := 106) X dX6_findSteps_105 rfl ?_
          exact jn106 0 (by omega)
        · refine z_iload (pc' := 101) X dX6_findSteps_99 rfl 1 rfl ?_
          refine z_ineg (pc' := 102) X dX6_findSteps_101 rfl ?_
          refine z_goto (tgt := 106) X dX6_findSteps_102 (by decide) ?_
          exact jn106 (-((tin 2 (q_ / (gcdI p_ q_))) - (tin 2 (p_ / (gcdI p_ q_))))) (by omega)
    refine z_if_le (tgt := 81) (pc' := 76) X dX6_findSteps_73 (by decide) rfl (by omega) (fun h73 => ?_) (fun h73 => ?_)
    · refine z_iconst (pc' := 82) X dX6_findSteps_81 rfl ?_
      exact jn82 0 (by omega)
    · refine z_iload (pc' := 78) X dX6_findSteps_76 rfl 0 rfl ?_
      refine z_goto (tgt := 82) X dX6_findSteps_78 (by decide) ?_
      exact jn82 ((tin 3 (q_ / (gcdI p_ q_))) - (tin 3 (p_ / (gcdI p_ q_)))) (by omega)
  refine z_if_le (tgt := 66) (pc' := 61) X dX6_findSteps_58 (by decide) rfl (by omega) (fun h58 => ?_) (fun h58 => ?_)
  · refine z_iconst (pc' := 67) X dX6_findSteps_66 rfl ?_
    exact jn67 0 (by omega)
  · refine z_iload (pc' := 63) X dX6_findSteps_61 rfl 1 rfl ?_
    refine z_goto (tgt := 67) X dX6_findSteps_63 (by decide) ?_
    exact jn67 ((tin 2 (q_ / (gcdI p_ q_))) - (tin 2 (p_ / (gcdI p_ q_)))) (by omega)
