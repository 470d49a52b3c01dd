set_option maxHeartbeats 4000000 in
set_option maxRecDepth 100000 in
theorem kX6_isIn (l : Launch) (D : va_G) (E : Nat → Nat) (v least most : Int) (hr : (-2147483648 ≤ v ∧ v < 2147483648) ∧ (-2147483648 ≤ least ∧ least < 2147483648) ∧ (-2147483648 ≤ most ∧ most < 2147483648)) : CtI l D E yX6_isIn wsX6_isIn ({ frames := 0, cells := 0, slots := 0, locals := 0 } : Room) [.int (jI v), .int (jI least), .int (jI most)] ([]) (fun _ : Unit => ([] : va_W)) (fun (rv : Int) (_ : Unit) => ((rv = 1 ∧ (least ≤ v ∧ v ≤ most)) ∨ (rv = 0 ∧ ¬ (least ≤ v ∧ v ≤ most)))) := by
  refine mk_I (cc := cX6_isIn) (maxL := 3) (ret := some .boolean) (by decide) rfl (Nat.le_of_ble_eq_true rfl) ?_
  intro p e s m args below meth c A X hret
  refine z_lv (lv' := [(0, .int (jI v)), (1, .int (jI least)), (2, .int (jI most))]) [0, 1, 2] rfl ?_
  refine z_iload_n (pc' := 1) X dX6_isIn_0 rfl 0 rfl rfl ?_
  refine z_iload_n (pc' := 2) X dX6_isIn_1 rfl 1 rfl rfl ?_
  refine z_icmp_lt (tgt := 14) (pc' := 5) X dX6_isIn_2 (by decide) rfl (by omega) (fun h2 => ?_) (fun h2 => ?_)
  · refine z_iconst (pc' := 15) X dX6_isIn_14 rfl ?_
    exact z_zret (post := (fun (rv : Int) (_ : Unit) => ((rv = 1 ∧ (least ≤ v ∧ v ≤ most)) ∨ (rv = 0 ∧ ¬ (least ≤ v ∧ v ≤ most))))) X dX6_isIn_15 hret () (by first | decide | omega) (Or.inr ⟨rfl, by omega⟩)
  · refine z_iload_n (pc' := 6) X dX6_isIn_5 rfl 0 rfl rfl ?_
    refine z_iload_n (pc' := 7) X dX6_isIn_6 rfl 2 rfl rfl ?_
    refine z_icmp_gt (tgt := 14) (pc' := 10) X dX6_isIn_7 (by decide) rfl (by omega) (fun h7 => ?_) (fun h7 => ?_)
    · refine z_iconst (pc' := 15) X dX6_isIn_14 rfl ?_
      exact z_zret (post := (fun (rv : Int) (_ : Unit) => ((rv = 1 ∧ (least ≤ v ∧ v ≤ most)) ∨ (rv = 0 ∧ ¬ (least ≤ v ∧ v ≤ most))))) X dX6_isIn_15 hret () (by first | decide | omega) (Or.inr ⟨rfl, by omega⟩)
    · refine z_iconst (pc' := 11) X dX6_isIn_10 rfl ?_
      refine z_goto (tgt := 15) X dX6_isIn_11 (by decide) ?_
      exact z_zret (post := (fun (rv : Int) (_ : Unit) => ((rv = 1 ∧ (least ≤ v ∧ v ≤ most)) ∨ (rv = 0 ∧ ¬ (least ≤ v ∧ v ≤ most))))) X dX6_isIn_15 hret () (by first | decide | omega) (Or.inl ⟨rfl, by omega⟩)
set_option maxHeartbeats 4000000 in
set_option maxRecDepth 100000 in
theorem kX6_common (l : Launch) (D : va_G) (E : Nat → Nat) (a b : Int) (hr : (0 ≤ a ∧ a < 9223372036854775808) ∧ (0 ≤ b ∧ b < 9223372036854775808)) : CtL l D E yX6_common wsX6_common ({ frames := 0, cells := 0, slots := 0, locals := 0 } : Room) [.long (jL a), .long (jL b)] ([]) (fun _ : Unit => ([] : va_W)) (fun (rv : Int) (_ : Unit) => rv = gcdI a b) := by
  refine mk_L (cc := cX6_common) (maxL := 10) (ret := some .long) (by decide) rfl (Nat.le_of_ble_eq_true rfl) ?_
  intro p e s m args below meth c A X hret
  refine z_lv (lv' := [(0, .long (jL a)), (2, .long (jL b))]) [0, 1] rfl ?_
  refine z_lload_n (pc' := 1) X dX6_common_0 rfl 0 rfl rfl ?_
  refine z_lstore (pc' := 3) (lv' := [(4, .long (jL a)), (0, .long (jL a)), (2, .long (jL b))]) X dX6_common_1 rfl (by decide) rfl ?_
  refine z_lload_n (pc' := 4) X dX6_common_3 rfl 2 rfl rfl ?_
  refine z_lstore (pc' := 6) (lv' := [(6, .long (jL b)), (4, .long (jL a)), (0, .long (jL a)), (2, .long (jL b))]) X dX6_common_4 rfl (by decide) rfl ?_
  have lp6 : ∀ (nF : Nat) (y : Int) (x : Int) , ((0 ≤ x ∧ x < 9223372036854775808) ∧ (0 ≤ y ∧ y < 9223372036854775808) ∧ gcdI x y = gcdI a b) → (y.toNat : Nat) < nF → J p l e (headSpec wsX6_common ({ frames := 0, cells := 0, slots := 0, locals := 0 } : Room)).room s m args below meth c D A 10 (MQ below (va_Ql (fun r u => ∃ x, r = jL x ∧ (fun (rv : Int) (_ : Unit) => rv = gcdI a b) x u) (Bw D (fun _ : Unit => ([] : va_W)) A) A) args s 0 0 A) 6 [(6, .long (jL y)), (4, .long (jL x)), (0, .long (jL a)), (2, .long (jL b))] [] ([]) := by
    intro nF
    induction nF with
    | zero => intro y x  hI hn; exact absurd hn (Nat.not_lt_zero _)
    | succ nF ih6 =>
      intro y x  hI hn
      obtain ⟨h1, h2, h3⟩ := hI
      refine z_lload (pc' := 8) X dX6_common_6 rfl 0 rfl ?_
      refine z_lconst (pc' := 9) (x := 0) X dX6_common_8 rfl rfl ?_
      refine z_lcmp_le (tgt := 31) (pc' := 13) X dX6_common_9 (pc1 := 10) rfl dX6_common_10 (by decide) rfl (by omega) (fun h9 => ?_) (fun h9 => ?_)
      · refine z_lload (pc' := 33) X dX6_common_31 rfl 1 rfl ?_
        exact z_lret (post := (fun (rv : Int) (_ : Unit) => rv = gcdI a b)) X dX6_common_33 hret () (by rw [← h3, show y = 0 by omega]; exact (gcdI_zero h1.1).symm)
      · refine z_lload (pc' := 15) X dX6_common_13 rfl 1 rfl ?_
        refine z_lload (pc' := 17) X dX6_common_15 rfl 0 rfl ?_
        refine z_lrem (pc' := 18) X dX6_common_17 rfl (by omega) ?_
        refine z_lstore (pc' := 20) (lv' := [(8, .long (jL (x % y))), (6, .long (jL y)), (4, .long (jL x)), (0, .long (jL a)), (2, .long (jL b))]) X dX6_common_18 rfl (by decide) rfl ?_
        refine z_lload (pc' := 22) X dX6_common_20 rfl 1 rfl ?_
        refine z_lstore (pc' := 24) (lv' := [(4, .long (jL y)), (8, .long (jL (x % y))), (6, .long (jL y)), (0, .long (jL a)), (2, .long (jL b))]) X dX6_common_22 rfl (by decide) rfl ?_
        refine z_lload (pc' := 26) X dX6_common_24 rfl 1 rfl ?_
        refine z_lstore (pc' := 28) (lv' := [(6, .long (jL (x % y))), (4, .long (jL y)), (8, .long (jL (x % y))), (0, .long (jL a)), (2, .long (jL b))]) X dX6_common_26 rfl (by decide) rfl ?_
        refine z_goto (tgt := 6) X dX6_common_28 (by decide) ?_
        refine z_lv (lv' := [(6, .long (jL (x % y))), (4, .long (jL y)), (0, .long (jL a)), (2, .long (jL b))]) [0, 1, 3, 4] rfl ?_
        exact ih6 (x % y) y  (⟨by omega, ⟨Int.emod_nonneg _ (by omega), by have := Int.emod_lt_of_pos x (show 0 < y by omega); omega⟩, by rw [← h3]; exact gcdI_step h1.1 (by omega)⟩) (by have := Int.emod_lt_of_pos x (show 0 < y by omega); have := Int.emod_nonneg x (show y ≠ 0 by omega); omega)
  exact lp6 _ b a  (⟨hr.1, hr.2, rfl⟩) (Nat.lt_succ_self _)
set_option maxHeartbeats 4000000 in
set_option maxRecDepth 100000 in
theorem kX6_isValue (l : Launch) (D : va_G) (E : Nat → Nat) (v : Int) (hr : (-2147483648 ≤ v ∧ v < 2147483648)) : CtI l D E yX6_isValue wsX6_isValue ({ frames := 1, cells := 0, slots := 0, locals := 22 } : Room) [.int (jI v)] ([]) (fun _ : Unit => ([] : va_W)) (fun (rv : Int) (_ : Unit) => ((rv = 1 ∧ (0 ≤ v ∧ v ≤ 19)) ∨ (rv = 0 ∧ ¬ (0 ≤ v ∧ v ≤ 19)))) := by
  refine mk_I (cc := cX6_isValue) (maxL := 1) (ret := some .boolean) (by decide) rfl (Nat.le_of_ble_eq_true rfl) ?_
  intro p e s m args below meth c A X hret
  refine z_lv (lv' := [(0, .int (jI v))]) [0] rfl ?_
  refine z_iload_n (pc' := 1) X dX6_isValue_0 rfl 0 rfl rfl ?_
  refine z_iconst (pc' := 2) X dX6_isValue_1 rfl ?_
  refine z_bipush (pc' := 4) X dX6_isValue_2 rfl rfl ?_
  refine z_callPI (pc' := 7) (S := Unit) (As := [.int (jI v), .int (jI 0), .int (jI 19)]) (rest := []) X dX6_isValue_4 rfl (kX6_isIn l D E v 0 19  (by omega)) (va_cwS 3 X.1.2.2.2.2 gX6_isValue_X6_isIn rfl rfl rfl (by decide +kernel) ⟨Nat.le_of_ble_eq_true rfl, Nat.le_of_ble_eq_true rfl⟩) rfl rfl (Nat.le_of_ble_eq_true rfl) (fun r4 u4 hp4 => ?_)
  skip
  rcases hp4 with ⟨rfl, hp4⟩ | ⟨rfl, hp4⟩
  · exact z_zret (post := (fun (rv : Int) (_ : Unit) => ((rv = 1 ∧ (0 ≤ v ∧ v ≤ 19)) ∨ (rv = 0 ∧ ¬ (0 ≤ v ∧ v ≤ 19))))) X dX6_isValue_7 hret () (by first | decide | omega) (Or.inl ⟨rfl, by omega⟩)
  · exact z_zret (post := (fun (rv : Int) (_ : Unit) => ((rv = 1 ∧ (0 ≤ v ∧ v ≤ 19)) ∨ (rv = 0 ∧ ¬ (0 ≤ v ∧ v ≤ 19))))) X dX6_isValue_7 hret () (by first | decide | omega) (Or.inr ⟨rfl, by omega⟩)
set_option maxHeartbeats 4000000 in
set_option maxRecDepth 100000 in
theorem kX6_told (l : Launch) (D : va_G) (E : Nat → Nat) (up low which : Int) (hr : (0 ≤ up ∧ up < 9223372036854775808) ∧ (0 < low ∧ low < 9223372036854775808) ∧ (0 ≤ which ∧ which ≤ 1)) : CtL l D E yX6_told wsX6_told ({ frames := 1, cells := 0, slots := 0, locals := 29 } : Room) [.long (jL up), .long (jL low), .int (jI which)] ([]) (fun _ : Unit => ([] : va_W)) (fun (rv : Int) (_ : Unit) => rv = (if which = 0 then up / gcdI up low else low / gcdI up low)) := by
  refine mk_L (cc := cX6_told) (maxL := 7) (ret := some .long) (by decide) rfl (Nat.le_of_ble_eq_true rfl) ?_
  intro p e s m args below meth c A X hret
  refine z_lv (lv' := [(0, .long (jL up)), (2, .long (jL low)), (4, .int (jI which))]) [0, 1, 2] rfl ?_
  refine z_lload_n (pc' := 1) X dX6_told_0 rfl 0 rfl rfl ?_
  refine z_lload_n (pc' := 2) X dX6_told_1 rfl 1 rfl rfl ?_
  refine z_callPL (pc' := 5) (S := Unit) (As := [.long (jL up), .long (jL low)]) (rest := []) X dX6_told_2 rfl (kX6_common l D E up low  (by (have hg := gcdI_pos (a := up) (b := low) (by omega); have hg2 := gcdI_le (a := up) (b := low) (by omega); omega))) (va_cwS 2 X.1.2.2.2.2 gX6_told_X6_common rfl rfl rfl (by decide +kernel) ⟨Nat.le_of_ble_eq_true rfl, Nat.le_of_ble_eq_true rfl⟩) rfl rfl (Nat.le_of_ble_eq_true rfl) (fun r2 u2 hp2 => ?_)
  replace hp2 := hp2.symm; subst hp2
  refine z_lstore (pc' := 7) (lv' := [(5, .long (jL (gcdI up low))), (0, .long (jL up)), (2, .long (jL low)), (4, .int (jI which))]) X dX6_told_5 rfl (by decide) rfl ?_
  refine z_iload (pc' := 9) X dX6_told_7 rfl 3 rfl ?_
  refine z_if_ne (tgt := 19) (pc' := 12) X dX6_told_9 (by decide) rfl (by (have hg := gcdI_pos (a := up) (b := low) (by omega); have hg2 := gcdI_le (a := up) (b := low) (by omega); omega)) (fun h9 => ?_) (fun h9 => ?_)
  · refine z_lload_n (pc' := 20) X dX6_told_19 rfl 2 rfl rfl ?_
    refine z_lload (pc' := 22) X dX6_told_20 rfl 0 rfl ?_
    refine z_ldiv (pc' := 23) X dX6_told_22 rfl (by (have hg := gcdI_pos (a := up) (b := low) (by omega); have hg2 := gcdI_le (a := up) (b := low) (by omega); omega)) ?_
    exact z_lret (post := (fun (rv : Int) (_ : Unit) => rv = (if which = 0 then up / gcdI up low else low / gcdI up low))) X dX6_told_23 hret () (by first | (rw [if_pos (by omega)]; done) | (rw [if_neg (by omega)]; done))
  · refine z_lload_n (pc' := 13) X dX6_told_12 rfl 1 rfl rfl ?_
    refine z_lload (pc' := 15) X dX6_told_13 rfl 0 rfl ?_
    refine z_ldiv (pc' := 16) X dX6_told_15 rfl (by (have hg := gcdI_pos (a := up) (b := low) (by omega); have hg2 := gcdI_le (a := up) (b := low) (by omega); omega)) ?_
    refine z_goto (tgt := 23) X dX6_told_16 (by decide) ?_
    exact z_lret (post := (fun (rv : Int) (_ : Unit) => rv = (if which = 0 then up / gcdI up low else low / gcdI up low))) X dX6_told_23 hret () (by first | (rw [if_pos (by omega)]; done) | (rw [if_neg (by omega)]; done))
set_option maxHeartbeats 4000000 in
set_option maxRecDepth 100000 in
theorem kX6_apart (l : Launch) (D : va_G) (E : Nat → Nat) (x y : Int) (hr : (-9223372036854775808 ≤ x ∧ x < 9223372036854775808) ∧ (-9223372036854775808 ≤ y ∧ y < 9223372036854775808)) : CtL l D E yX6_apart wsX6_apart ({ frames := 0, cells := 0, slots := 0, locals := 0 } : Room) [.long (jL x), .long (jL y)] ([]) (fun _ : Unit => ([] : va_W)) (fun (rv : Int) (_ : Unit) => rv = ((x - y).natAbs : Int)) := by
  refine mk_L (cc := cX6_apart) (maxL := 4) (ret := some .long) (by decide) rfl (Nat.le_of_ble_eq_true rfl) ?_
  intro p e s m args below meth c A X hret
  refine z_lv (lv' := [(0, .long (jL x)), (2, .long (jL y))]) [0, 1] rfl ?_
  refine z_lload_n (pc' := 1) X dX6_apart_0 rfl 0 rfl rfl ?_
  refine z_lload_n (pc' := 2) X dX6_apart_1 rfl 1 rfl rfl ?_
  refine z_lcmp_le (tgt := 12) (pc' := 6) X dX6_apart_2 (pc1 := 3) rfl dX6_apart_3 (by decide) rfl (by omega) (fun h2 => ?_) (fun h2 => ?_)
  · refine z_lload_n (pc' := 13) X dX6_apart_12 rfl 1 rfl rfl ?_
    refine z_lload_n (pc' := 14) X dX6_apart_13 rfl 0 rfl rfl ?_
    refine z_lsub (pc' := 15) X dX6_apart_14 rfl ?_
    exact z_lret (post := (fun (rv : Int) (_ : Unit) => rv = ((x - y).natAbs : Int))) X dX6_apart_15 hret () (by first | rfl | omega)
  · refine z_lload_n (pc' := 7) X dX6_apart_6 rfl 0 rfl rfl ?_
    refine z_lload_n (pc' := 8) X dX6_apart_7 rfl 1 rfl rfl ?_
    refine z_lsub (pc' := 9) X dX6_apart_8 rfl ?_
    refine z_goto (tgt := 15) X dX6_apart_9 (by decide) ?_
    exact z_lret (post := (fun (rv : Int) (_ : Unit) => rv = ((x - y).natAbs : Int))) X dX6_apart_15 hret () (by first | rfl | omega)
set_option maxHeartbeats 4000000 in
set_option maxRecDepth 100000 in
theorem kX6_timesIn (l : Launch) (D : va_G) (E : Nat → Nat) (v by_ : Int) (hr : (1 ≤ v ∧ v < 2147483648) ∧ (2 ≤ by_ ∧ by_ ≤ 3)) : CtI l D E yX6_timesIn wsX6_timesIn ({ frames := 0, cells := 0, slots := 0, locals := 0 } : Room) [.int (jI v), .int (jI by_)] ([]) (fun _ : Unit => ([] : va_W)) (fun (rv : Int) (_ : Unit) => rv = tin by_ v) := by
  refine mk_I (cc := cX6_timesIn) (maxL := 4) (ret := some .int) (by decide) rfl (Nat.le_of_ble_eq_true rfl) ?_
  intro p e s m args below meth c A X hret
  refine z_lv (lv' := [(0, .int (jI v)), (1, .int (jI by_))]) [0, 1] rfl ?_
  refine z_iconst (pc' := 1) X dX6_timesIn_0 rfl ?_
  refine z_istore_n (pc' := 2) (lv' := [(2, .int (jI 0)), (0, .int (jI v)), (1, .int (jI by_))]) X dX6_timesIn_1 rfl rfl (by decide) rfl ?_
  refine z_iload_n (pc' := 3) X dX6_timesIn_2 rfl 1 rfl rfl ?_
  refine z_istore_n (pc' := 4) (lv' := [(3, .int (jI v)), (2, .int (jI 0)), (0, .int (jI v)), (1, .int (jI by_))]) X dX6_timesIn_3 rfl rfl (by decide) rfl ?_
  have lp4 : ∀ (nF : Nat) (left : Int) (n_ : Int) , ((0 ≤ n_ ∧ n_ + left ≤ v) ∧ (1 ≤ left) ∧ n_ + tin by_ left = tin by_ v) → (left.toNat : Nat) < nF → J p l e (headSpec wsX6_timesIn ({ frames := 0, cells := 0, slots := 0, locals := 0 } : Room)).room s m args below meth c D A 4 (MQ below (va_Qi (fun r u => ∃ x, r = jI x ∧ (fun (rv : Int) (_ : Unit) => rv = tin by_ v) x u) (Bw D (fun _ : Unit => ([] : va_W)) A) A) args s 0 0 A) 4 [(3, .int (jI left)), (2, .int (jI n_)), (0, .int (jI v)), (1, .int (jI by_))] [] ([]) := by
    intro nF
    induction nF with
    | zero => intro left n_  hI hn; exact absurd hn (Nat.not_lt_zero _)
    | succ nF ih4 =>
      intro left n_  hI hn
      obtain ⟨h1, h2, h3⟩ := hI
      refine z_iload_n (pc' := 5) X dX6_timesIn_4 rfl 0 rfl rfl ?_
      refine z_iload_n (pc' := 6) X dX6_timesIn_5 rfl 3 rfl rfl ?_
      refine z_irem (pc' := 7) X dX6_timesIn_6 rfl (by omega) ?_
      refine z_if_ne (tgt := 20) (pc' := 10) X dX6_timesIn_7 (by decide) rfl (by (have := Int.emod_nonneg left (show by_ ≠ 0 by omega); have := Int.emod_lt_of_pos left (show 0 < by_ by omega); omega)) (fun h7 => ?_) (fun h7 => ?_)
      · refine z_iload_n (pc' := 21) X dX6_timesIn_20 rfl 1 rfl rfl ?_
        exact z_iret (post := (fun (rv : Int) (_ : Unit) => rv = tin by_ v)) X dX6_timesIn_21 hret () (by have := tin_no h2 h7; omega)
      · have hd := tin_dv h2 (show 2 ≤ by_ by omega) h7
        refine z_iinc (pc' := 13) (lv' := [(2, .int (jI (n_ + 1))), (3, .int (jI left)), (0, .int (jI v)), (1, .int (jI by_))]) X dX6_timesIn_10 rfl 1 rfl (by decide) rfl ?_
        refine z_iload_n (pc' := 14) X dX6_timesIn_13 rfl 1 rfl rfl ?_
        refine z_iload_n (pc' := 15) X dX6_timesIn_14 rfl 3 rfl rfl ?_
        refine z_idiv (pc' := 16) X dX6_timesIn_15 rfl (by omega) ?_
        refine z_istore_n (pc' := 17) (lv' := [(3, .int (jI (left / by_))), (2, .int (jI (n_ + 1))), (0, .int (jI v)), (1, .int (jI by_))]) X dX6_timesIn_16 rfl rfl (by decide) rfl ?_
        refine z_goto (tgt := 4) X dX6_timesIn_17 (by decide) ?_
        exact ih4 (left / by_) (n_ + 1)  (⟨by omega, hd.1, by omega⟩) (by omega)
  exact lp4 _ v 0  (⟨by omega, by omega, by omega⟩) (Nat.lt_succ_self _)
set_option maxHeartbeats 4000000 in
set_option maxRecDepth 100000 in
theorem kX6_power (l : Launch) (D : va_G) (E : Nat → Nat) (by_ n : Int) (hr : (-2147483648 ≤ by_ ∧ by_ < 2147483648) ∧ (-2147483648 ≤ n ∧ n < 2147483648)) : CtL l D E yX6_power wsX6_power ({ frames := 0, cells := 0, slots := 0, locals := 0 } : Room) [.int (jI by_), .int (jI n)] ([]) (fun _ : Unit => ([] : va_W)) (fun (rv : Int) (_ : Unit) => rv = by_ ^ n.toNat) := by
  refine mk_L (cc := cX6_power) (maxL := 5) (ret := some .long) (by decide) rfl (Nat.le_of_ble_eq_true rfl) ?_
  intro p e s m args below meth c A X hret
  refine z_lv (lv' := [(0, .int (jI by_)), (1, .int (jI n))]) [0, 1] rfl ?_
  refine z_lconst (pc' := 1) (x := 1) X dX6_power_0 rfl rfl ?_
  refine z_lstore_n (pc' := 2) (lv' := [(2, .long (jL 1)), (0, .int (jI by_)), (1, .int (jI n))]) X dX6_power_1 rfl rfl (by decide) rfl ?_
  refine z_iconst (pc' := 3) X dX6_power_2 rfl ?_
  refine z_istore (pc' := 5) (lv' := [(4, .int (jI 0)), (2, .long (jL 1)), (0, .int (jI by_)), (1, .int (jI n))]) X dX6_power_3 rfl (by decide) rfl ?_
  have lp5 : ∀ (nF : Nat) (k : Int) (its : Int) , ((0 ≤ k ∧ (k ≤ n ∨ k = 0)) ∧ its = by_ ^ k.toNat) → ((n - k).toNat : Nat) < nF → J p l e (headSpec wsX6_power ({ frames := 0, cells := 0, slots := 0, locals := 0 } : Room)).room s m args below meth c D A 5 (MQ below (va_Ql (fun r u => ∃ x, r = jL x ∧ (fun (rv : Int) (_ : Unit) => rv = by_ ^ n.toNat) x u) (Bw D (fun _ : Unit => ([] : va_W)) A) A) args s 0 0 A) 5 [(4, .int (jI k)), (2, .long (jL its)), (0, .int (jI by_)), (1, .int (jI n))] [] ([]) := by
    intro nF
    induction nF with
    | zero => intro k its  hI hn; exact absurd hn (Nat.not_lt_zero _)
    | succ nF ih5 =>
      intro k its  hI hn
      obtain ⟨h1, h2⟩ := hI
      refine z_iload (pc' := 7) X dX6_power_5 rfl 0 rfl ?_
      refine z_iload_n (pc' := 8) X dX6_power_7 rfl 3 rfl rfl ?_
      refine z_icmp_ge (tgt := 22) (pc' := 11) X dX6_power_8 (by decide) rfl (by omega) (fun h8 => ?_) (fun h8 => ?_)
      · refine z_lload_n (pc' := 23) X dX6_power_22 rfl 1 rfl rfl ?_
        exact z_lret (post := (fun (rv : Int) (_ : Unit) => rv = by_ ^ n.toNat)) X dX6_power_23 hret () (by rw [h2, show k.toNat = n.toNat by omega])
      · refine z_lload_n (pc' := 12) X dX6_power_11 rfl 1 rfl rfl ?_
        refine z_iload_n (pc' := 13) X dX6_power_12 rfl 2 rfl rfl ?_
        refine z_i2l (pc' := 14) X dX6_power_13 rfl (by omega) ?_
        refine z_lmul (pc' := 15) X dX6_power_14 rfl ?_
        refine z_lstore_n (pc' := 16) (lv' := [(2, .long (jL (its * by_))), (4, .int (jI k)), (0, .int (jI by_)), (1, .int (jI n))]) X dX6_power_15 rfl rfl (by decide) rfl ?_
        refine z_iinc (pc' := 19) (lv' := [(4, .int (jI (k + 1))), (2, .long (jL (its * by_))), (0, .int (jI by_)), (1, .int (jI n))]) X dX6_power_16 rfl 1 rfl (by decide) rfl ?_
        refine z_goto (tgt := 5) X dX6_power_19 (by decide) ?_
        exact ih5 (k + 1) (its * by_)  (⟨by omega, by rw [h2, show (k + 1).toNat = k.toNat + 1 by omega]; exact (Int.pow_succ _ _).symm⟩) (by omega)
  exact lp5 _ 0 1  (⟨by omega, by simp⟩) (Nat.lt_succ_self _)
set_option maxHeartbeats 4000000 in
set_option maxRecDepth 100000 in
theorem kX6_indexOf (l : Launch) (D : va_G) (E : Nat → Nat) (twos threes : Int) : CtI l D E yX6_indexOf wsX6_indexOf ({ frames := 0, cells := 0, slots := 0, locals := 0 } : Room) [.int (jI twos), .int (jI threes)] ([]) (fun _ : Unit => ([] : va_W)) (fun (rv : Int) (_ : Unit) => rv = 21 * (twos + 30) + threes + 10) := by
  refine mk_I (cc := cX6_indexOf) (maxL := 2) (ret := some .int) (by decide) rfl (Nat.le_of_ble_eq_true rfl) ?_
  intro p e s m args below meth c A X hret
  refine z_lv (lv' := [(0, .int (jI twos)), (1, .int (jI threes))]) [0, 1] rfl ?_
  refine z_bipush (pc' := 2) X dX6_indexOf_0 rfl rfl ?_
  refine z_iload_n (pc' := 3) X dX6_indexOf_2 rfl 0 rfl rfl ?_
  refine z_bipush (pc' := 5) X dX6_indexOf_3 rfl rfl ?_
  refine z_iadd (pc' := 6) X dX6_indexOf_5 rfl ?_
  refine z_imul (pc' := 7) X dX6_indexOf_6 rfl ?_
  refine z_iload_n (pc' := 8) X dX6_indexOf_7 rfl 1 rfl rfl ?_
  refine z_iadd (pc' := 9) X dX6_indexOf_8 rfl ?_
  refine z_bipush (pc' := 11) X dX6_indexOf_9 rfl rfl ?_
  refine z_iadd (pc' := 12) X dX6_indexOf_11 rfl ?_
  exact z_iret (post := (fun (rv : Int) (_ : Unit) => rv = 21 * (twos + 30) + threes + 10)) X dX6_indexOf_12 hret () (by first | rfl | omega)
set_option maxHeartbeats 4000000 in
set_option maxRecDepth 100000 in
theorem kX6_isOf (l : Launch) (D : va_G) (E : Nat → Nat) (set v w : Int) (hr : (0 ≤ set ∧ set < 2147483648) ∧ (0 ≤ v ∧ v < 20) ∧ (0 ≤ w ∧ w < 20)) : CtI l D E yX6_isOf wsX6_isOf ({ frames := 0, cells := 0, slots := 0, locals := 0 } : Room) [.int (jI set), .int (jI v), .int (jI w)] ([]) (fun _ : Unit => ([] : va_W)) (fun (rv : Int) (_ : Unit) => ((rv = 1 ∧ (iAnd (iAnd (iShr set v) (iShr set w)) 1 = 1)) ∨ (rv = 0 ∧ ¬ (iAnd (iAnd (iShr set v) (iShr set w)) 1 = 1)))) := by
  refine mk_I (cc := cX6_isOf) (maxL := 3) (ret := some .boolean) (by decide) rfl (Nat.le_of_ble_eq_true rfl) ?_
  intro p e s m args below meth c A X hret
  refine z_lv (lv' := [(0, .int (jI set)), (1, .int (jI v)), (2, .int (jI w))]) [0, 1, 2] rfl ?_
  refine z_iload_n (pc' := 1) X dX6_isOf_0 rfl 0 rfl rfl ?_
  refine z_iload_n (pc' := 2) X dX6_isOf_1 rfl 1 rfl rfl ?_
  refine z_ishr (pc' := 3) X dX6_isOf_2 rfl (by (have h1 := iShr_rng (a := set) (k := v) (by omega) (by omega); have h2 := iShr_rng (a := set) (k := w) (by omega) (by omega); have h3 := iAnd_rng (iShr set v) (iShr set w); have h4 := iAnd_rng (iAnd (iShr set v) (iShr set w)) 1; omega)) ?_
  refine z_iload_n (pc' := 4) X dX6_isOf_3 rfl 0 rfl rfl ?_
  refine z_iload_n (pc' := 5) X dX6_isOf_4 rfl 2 rfl rfl ?_
  refine z_ishr (pc' := 6) X dX6_isOf_5 rfl (by (have h1 := iShr_rng (a := set) (k := v) (by omega) (by omega); have h2 := iShr_rng (a := set) (k := w) (by omega) (by omega); have h3 := iAnd_rng (iShr set v) (iShr set w); have h4 := iAnd_rng (iAnd (iShr set v) (iShr set w)) 1; omega)) ?_
  refine z_iand (pc' := 7) X dX6_isOf_6 rfl (by (have h1 := iShr_rng (a := set) (k := v) (by omega) (by omega); have h2 := iShr_rng (a := set) (k := w) (by omega) (by omega); have h3 := iAnd_rng (iShr set v) (iShr set w); have h4 := iAnd_rng (iAnd (iShr set v) (iShr set w)) 1; omega)) ?_
  refine z_iconst (pc' := 8) X dX6_isOf_7 rfl ?_
  refine z_iand (pc' := 9) X dX6_isOf_8 rfl (by (have h1 := iShr_rng (a := set) (k := v) (by omega) (by omega); have h2 := iShr_rng (a := set) (k := w) (by omega) (by omega); have h3 := iAnd_rng (iShr set v) (iShr set w); have h4 := iAnd_rng (iAnd (iShr set v) (iShr set w)) 1; omega)) ?_
  refine z_iconst (pc' := 10) X dX6_isOf_9 rfl ?_
  refine z_icmp_ne (tgt := 17) (pc' := 13) X dX6_isOf_10 (by decide) rfl (by (have h1 := iShr_rng (a := set) (k := v) (by omega) (by omega); have h2 := iShr_rng (a := set) (k := w) (by omega) (by omega); have h3 := iAnd_rng (iShr set v) (iShr set w); have h4 := iAnd_rng (iAnd (iShr set v) (iShr set w)) 1; omega)) (fun h10 => ?_) (fun h10 => ?_)
  · refine z_iconst (pc' := 18) X dX6_isOf_17 rfl ?_
    exact z_zret (post := (fun (rv : Int) (_ : Unit) => ((rv = 1 ∧ (iAnd (iAnd (iShr set v) (iShr set w)) 1 = 1)) ∨ (rv = 0 ∧ ¬ (iAnd (iAnd (iShr set v) (iShr set w)) 1 = 1))))) X dX6_isOf_18 hret () (by first | decide | omega) (Or.inr ⟨rfl, by (have h1 := iShr_rng (a := set) (k := v) (by omega) (by omega); have h2 := iShr_rng (a := set) (k := w) (by omega) (by omega); have h3 := iAnd_rng (iShr set v) (iShr set w); have h4 := iAnd_rng (iAnd (iShr set v) (iShr set w)) 1; omega)⟩)
  · refine z_iconst (pc' := 14) X dX6_isOf_13 rfl ?_
    refine z_goto (tgt := 18) X dX6_isOf_14 (by decide) ?_
    exact z_zret (post := (fun (rv : Int) (_ : Unit) => ((rv = 1 ∧ (iAnd (iAnd (iShr set v) (iShr set w)) 1 = 1)) ∨ (rv = 0 ∧ ¬ (iAnd (iAnd (iShr set v) (iShr set w)) 1 = 1))))) X dX6_isOf_18 hret () (by first | decide | omega) (Or.inl ⟨rfl, by (have h1 := iShr_rng (a := set) (k := v) (by omega) (by omega); have h2 := iShr_rng (a := set) (k := w) (by omega) (by omega); have h3 := iAnd_rng (iShr set v) (iShr set w); have h4 := iAnd_rng (iAnd (iShr set v) (iShr set w)) 1; omega)⟩)
set_option maxHeartbeats 4000000 in
set_option maxRecDepth 100000 in
theorem kX6_ticksOf (l : Launch) (D : va_G) (E : Nat → Nat) (v : Int) (hr : 0 ≤ v ∧ v < 20) : CtI l D E yX6_ticksOf wsX6_ticksOf ({ frames := 0, cells := 0, slots := 0, locals := 0 } : Room) [.int (jI v)] ([]) (fun _ : Unit => ([] : va_W)) (fun (rv : Int) (_ : Unit) => rv = tk v) := by
  refine mk_I (cc := cX6_ticksOf) (maxL := 2) (ret := some .int) (by decide) rfl (Nat.le_of_ble_eq_true rfl) ?_
  intro p e s m args below meth c A X hret
  refine z_lv (lv' := [(0, .int (jI v))]) [0] rfl ?_
  refine z_bipush (pc' := 2) X dX6_ticksOf_0 rfl rfl ?_
  refine z_iload_n (pc' := 3) X dX6_ticksOf_2 rfl 0 rfl rfl ?_
  refine z_iconst (pc' := 4) X dX6_ticksOf_3 rfl ?_
  refine z_idiv (pc' := 5) X dX6_ticksOf_4 rfl (by (first | omega | (have h1 := tkA hr; omega))) ?_
  refine z_ishr (pc' := 6) X dX6_ticksOf_5 rfl (by (first | omega | (have h1 := tkA hr; omega))) ?_
  refine z_istore_n (pc' := 7) (lv' := [(1, .int (jI (iShr 96 (v / 4)))), (0, .int (jI v))]) X dX6_ticksOf_6 rfl rfl (by decide) rfl ?_
  refine z_iload_n (pc' := 8) X dX6_ticksOf_7 rfl 1 rfl rfl ?_
  refine z_iconst (pc' := 9) X dX6_ticksOf_8 rfl ?_
  refine z_ishr (pc' := 10) X dX6_ticksOf_9 rfl (by (first | omega | (have h1 := tkA hr; omega))) ?_
  refine z_iconst (pc' := 11) X dX6_ticksOf_10 rfl ?_
  refine z_iand (pc' := 12) X dX6_ticksOf_11 rfl (by (first | omega | (have h1 := tkA hr; omega))) ?_
  refine z_iconst (pc' := 13) X dX6_ticksOf_12 rfl ?_
  refine z_icmp_ne (tgt := 24) (pc' := 16) X dX6_ticksOf_13 (by decide) rfl (by (first | omega | (have h1 := tkA hr; omega))) (fun h13 => ?_) (fun h13 => ?_)
  · refine z_iload_n (pc' := 25) X dX6_ticksOf_24 rfl 0 rfl rfl ?_
    refine z_istore_n (pc' := 26) (lv' := [(1, .int (jI (iShr 96 (v / 4)))), (0, .int (jI v))]) X dX6_ticksOf_25 rfl rfl (by decide) rfl ?_
    refine z_iload_n (pc' := 27) X dX6_ticksOf_26 rfl 1 rfl rfl ?_
    refine z_iconst (pc' := 28) X dX6_ticksOf_27 rfl ?_
    refine z_iand (pc' := 29) X dX6_ticksOf_28 rfl (by (first | omega | (have h1 := tkA hr; omega))) ?_
    refine z_iconst (pc' := 30) X dX6_ticksOf_29 rfl ?_
    refine z_icmp_ne (tgt := 41) (pc' := 33) X dX6_ticksOf_30 (by decide) rfl (by (first | omega | (have h1 := tkA hr; omega))) (fun h30 => ?_) (fun h30 => ?_)
    · refine z_iload_n (pc' := 42) X dX6_ticksOf_41 rfl 0 rfl rfl ?_
      exact z_iret (post := (fun (rv : Int) (_ : Unit) => rv = tk v)) X dX6_ticksOf_42 hret () (by first | exact (tkB hr).1 h13 h30 | exact (tkB hr).2.1 h13 h30 | exact (tkB hr).2.2.1 h13 h30 | exact (tkB hr).2.2.2 h13 h30)
    · refine z_iload_n (pc' := 34) X dX6_ticksOf_33 rfl 0 rfl rfl ?_
      refine z_iconst (pc' := 35) X dX6_ticksOf_34 rfl ?_
      refine z_idiv (pc' := 36) X dX6_ticksOf_35 rfl (by (first | omega | (have h1 := tkA hr; omega))) ?_
      refine z_iconst (pc' := 37) X dX6_ticksOf_36 rfl ?_
      refine z_imul (pc' := 38) X dX6_ticksOf_37 rfl ?_
      refine z_goto (tgt := 42) X dX6_ticksOf_38 (by decide) ?_
      exact z_iret (post := (fun (rv : Int) (_ : Unit) => rv = tk v)) X dX6_ticksOf_42 hret () (by first | exact (tkB hr).1 h13 h30 | exact (tkB hr).2.1 h13 h30 | exact (tkB hr).2.2.1 h13 h30 | exact (tkB hr).2.2.2 h13 h30)
  · refine z_iload_n (pc' := 17) X dX6_ticksOf_16 rfl 0 rfl rfl ?_
    refine z_iload_n (pc' := 18) X dX6_ticksOf_17 rfl 0 rfl rfl ?_
    refine z_iconst (pc' := 19) X dX6_ticksOf_18 rfl ?_
    refine z_idiv (pc' := 20) X dX6_ticksOf_19 rfl (by (first | omega | (have h1 := tkA hr; omega))) ?_
    refine z_iadd (pc' := 21) X dX6_ticksOf_20 rfl ?_
    refine z_goto (tgt := 25) X dX6_ticksOf_21 (by decide) ?_
    refine z_istore_n (pc' := 26) (lv' := [(1, .int (jI ((iShr 96 (v / 4)) + ((iShr 96 (v / 4)) / 2)))), (0, .int (jI v))]) X dX6_ticksOf_25 rfl rfl (by decide) rfl ?_
    refine z_iload_n (pc' := 27) X dX6_ticksOf_26 rfl 1 rfl rfl ?_
    refine z_iconst (pc' := 28) X dX6_ticksOf_27 rfl ?_
    refine z_iand (pc' := 29) X dX6_ticksOf_28 rfl (by (first | omega | (have h1 := tkA hr; omega))) ?_
    refine z_iconst (pc' := 30) X dX6_ticksOf_29 rfl ?_
    refine z_icmp_ne (tgt := 41) (pc' := 33) X dX6_ticksOf_30 (by decide) rfl (by (first | omega | (have h1 := tkA hr; omega))) (fun h30 => ?_) (fun h30 => ?_)
    · refine z_iload_n (pc' := 42) X dX6_ticksOf_41 rfl 0 rfl rfl ?_
      exact z_iret (post := (fun (rv : Int) (_ : Unit) => rv = tk v)) X dX6_ticksOf_42 hret () (by first | exact (tkB hr).1 h13 h30 | exact (tkB hr).2.1 h13 h30 | exact (tkB hr).2.2.1 h13 h30 | exact (tkB hr).2.2.2 h13 h30)
    · refine z_iload_n (pc' := 34) X dX6_ticksOf_33 rfl 0 rfl rfl ?_
      refine z_iconst (pc' := 35) X dX6_ticksOf_34 rfl ?_
      refine z_idiv (pc' := 36) X dX6_ticksOf_35 rfl (by (first | omega | (have h1 := tkA hr; omega))) ?_
      refine z_iconst (pc' := 37) X dX6_ticksOf_36 rfl ?_
      refine z_imul (pc' := 38) X dX6_ticksOf_37 rfl ?_
      refine z_goto (tgt := 42) X dX6_ticksOf_38 (by decide) ?_
      exact z_iret (post := (fun (rv : Int) (_ : Unit) => rv = tk v)) X dX6_ticksOf_42 hret () (by first | exact (tkB hr).1 h13 h30 | exact (tkB hr).2.1 h13 h30 | exact (tkB hr).2.2.1 h13 h30 | exact (tkB hr).2.2.2 h13 h30)
set_option maxHeartbeats 4000000 in
set_option maxRecDepth 100000 in
theorem kX6_twosBy (l : Launch) (D : va_G) (E : Nat → Nat) (v w : Int) (hr : (0 ≤ v ∧ v < 20) ∧ (0 ≤ w ∧ w < 20)) : CtI l D E yX6_twosBy wsX6_twosBy ({ frames := 1, cells := 0, slots := 0, locals := 23 } : Room) [.int (jI v), .int (jI w)] ([]) (fun _ : Unit => ([] : va_W)) (fun (rv : Int) (_ : Unit) => rv = tw w - tw v) := by
  refine mk_I (cc := cX6_twosBy) (maxL := 2) (ret := some .int) (by decide) rfl (Nat.le_of_ble_eq_true rfl) ?_
  intro p e s m args below meth c A X hret
  refine z_lv (lv' := [(0, .int (jI v)), (1, .int (jI w))]) [0, 1] rfl ?_
  refine z_iload_n (pc' := 1) X dX6_twosBy_0 rfl 1 rfl rfl ?_
  refine z_callPI (pc' := 4) (S := Unit) (As := [.int (jI w)]) (rest := []) X dX6_twosBy_1 rfl (kX6_ticksOf l D E w  (by (first | omega | (have h1 := tk_rng hr.1; have h2 := tk_rng hr.2; omega)))) (va_cwS 1 X.1.2.2.2.2 gX6_twosBy_X6_ticksOf rfl rfl rfl (by decide +kernel) ⟨Nat.le_of_ble_eq_true rfl, Nat.le_of_ble_eq_true rfl⟩) rfl rfl (Nat.le_of_ble_eq_true rfl) (fun r1 u1 hp1 => ?_)
  replace hp1 := hp1.symm; subst hp1
  refine z_iconst (pc' := 5) X dX6_twosBy_4 rfl ?_
  refine z_callPI (pc' := 8) (S := Unit) (As := [.int (jI (tk w)), .int (jI 2)]) (rest := []) X dX6_twosBy_5 rfl (kX6_timesIn l D E (tk w) 2  (by (first | omega | (have h1 := tk_rng hr.1; have h2 := tk_rng hr.2; omega)))) (va_cwS 2 X.1.2.2.2.2 gX6_twosBy_X6_timesIn rfl rfl rfl (by decide +kernel) ⟨Nat.le_of_ble_eq_true rfl, Nat.le_of_ble_eq_true rfl⟩) rfl rfl (Nat.le_of_ble_eq_true rfl) (fun r5 u5 hp5 => ?_)
  replace hp5 := hp5.symm; subst hp5
  refine z_iload_n (pc' := 9) X dX6_twosBy_8 rfl 0 rfl rfl ?_
  refine z_callPI (pc' := 12) (S := Unit) (As := [.int (jI v)]) (rest := [.int (jI (tin 2 (tk w)))]) X dX6_twosBy_9 rfl (kX6_ticksOf l D E v  (by (first | omega | (have h1 := tk_rng hr.1; have h2 := tk_rng hr.2; omega)))) (va_cwS 1 X.1.2.2.2.2 gX6_twosBy_X6_ticksOf rfl rfl rfl (by decide +kernel) ⟨Nat.le_of_ble_eq_true rfl, Nat.le_of_ble_eq_true rfl⟩) rfl rfl (Nat.le_of_ble_eq_true rfl) (fun r9 u9 hp9 => ?_)
  replace hp9 := hp9.symm; subst hp9
  refine z_iconst (pc' := 13) X dX6_twosBy_12 rfl ?_
  refine z_callPI (pc' := 16) (S := Unit) (As := [.int (jI (tk v)), .int (jI 2)]) (rest := [.int (jI (tin 2 (tk w)))]) X dX6_twosBy_13 rfl (kX6_timesIn l D E (tk v) 2  (by (first | omega | (have h1 := tk_rng hr.1; have h2 := tk_rng hr.2; omega)))) (va_cwS 2 X.1.2.2.2.2 gX6_twosBy_X6_timesIn rfl rfl rfl (by decide +kernel) ⟨Nat.le_of_ble_eq_true rfl, Nat.le_of_ble_eq_true rfl⟩) rfl rfl (Nat.le_of_ble_eq_true rfl) (fun r13 u13 hp13 => ?_)
  replace hp13 := hp13.symm; subst hp13
  refine z_isub (pc' := 17) X dX6_twosBy_16 rfl ?_
  exact z_iret (post := (fun (rv : Int) (_ : Unit) => rv = tw w - tw v)) X dX6_twosBy_17 hret () (by rw [tin2 hr.1, tin2 hr.2])
set_option maxHeartbeats 4000000 in
set_option maxRecDepth 100000 in
theorem kX6_threesBy (l : Launch) (D : va_G) (E : Nat → Nat) (v w : Int) (hr : (0 ≤ v ∧ v < 20) ∧ (0 ≤ w ∧ w < 20)) : CtI l D E yX6_threesBy wsX6_threesBy ({ frames := 1, cells := 0, slots := 0, locals := 23 } : Room) [.int (jI v), .int (jI w)] ([]) (fun _ : Unit => ([] : va_W)) (fun (rv : Int) (_ : Unit) => rv = th w - th v) := by
  refine mk_I (cc := cX6_threesBy) (maxL := 2) (ret := some .int) (by decide) rfl (Nat.le_of_ble_eq_true rfl) ?_
  intro p e s m args below meth c A X hret
  refine z_lv (lv' := [(0, .int (jI v)), (1, .int (jI w))]) [0, 1] rfl ?_
  refine z_iload_n (pc' := 1) X dX6_threesBy_0 rfl 1 rfl rfl ?_
  refine z_callPI (pc' := 4) (S := Unit) (As := [.int (jI w)]) (rest := []) X dX6_threesBy_1 rfl (kX6_ticksOf l D E w  (by (first | omega | (have h1 := tk_rng hr.1; have h2 := tk_rng hr.2; omega)))) (va_cwS 1 X.1.2.2.2.2 gX6_threesBy_X6_ticksOf rfl rfl rfl (by decide +kernel) ⟨Nat.le_of_ble_eq_true rfl, Nat.le_of_ble_eq_true rfl⟩) rfl rfl (Nat.le_of_ble_eq_true rfl) (fun r1 u1 hp1 => ?_)
  replace hp1 := hp1.symm; subst hp1
  refine z_iconst (pc' := 5) X dX6_threesBy_4 rfl ?_
  refine z_callPI (pc' := 8) (S := Unit) (As := [.int (jI (tk w)), .int (jI 3)]) (rest := []) X dX6_threesBy_5 rfl (kX6_timesIn l D E (tk w) 3  (by (first | omega | (have h1 := tk_rng hr.1; have h2 := tk_rng hr.2; omega)))) (va_cwS 2 X.1.2.2.2.2 gX6_threesBy_X6_timesIn rfl rfl rfl (by decide +kernel) ⟨Nat.le_of_ble_eq_true rfl, Nat.le_of_ble_eq_true rfl⟩) rfl rfl (Nat.le_of_ble_eq_true rfl) (fun r5 u5 hp5 => ?_)
  replace hp5 := hp5.symm; subst hp5
  refine z_iload_n (pc' := 9) X dX6_threesBy_8 rfl 0 rfl rfl ?_
  refine z_callPI (pc' := 12) (S := Unit) (As := [.int (jI v)]) (rest := [.int (jI (tin 3 (tk w)))]) X dX6_threesBy_9 rfl (kX6_ticksOf l D E v  (by (first | omega | (have h1 := tk_rng hr.1; have h2 := tk_rng hr.2; omega)))) (va_cwS 1 X.1.2.2.2.2 gX6_threesBy_X6_ticksOf rfl rfl rfl (by decide +kernel) ⟨Nat.le_of_ble_eq_true rfl, Nat.le_of_ble_eq_true rfl⟩) rfl rfl (Nat.le_of_ble_eq_true rfl) (fun r9 u9 hp9 => ?_)
  replace hp9 := hp9.symm; subst hp9
  refine z_iconst (pc' := 13) X dX6_threesBy_12 rfl ?_
  refine z_callPI (pc' := 16) (S := Unit) (As := [.int (jI (tk v)), .int (jI 3)]) (rest := [.int (jI (tin 3 (tk w)))]) X dX6_threesBy_13 rfl (kX6_timesIn l D E (tk v) 3  (by (first | omega | (have h1 := tk_rng hr.1; have h2 := tk_rng hr.2; omega)))) (va_cwS 2 X.1.2.2.2.2 gX6_threesBy_X6_timesIn rfl rfl rfl (by decide +kernel) ⟨Nat.le_of_ble_eq_true rfl, Nat.le_of_ble_eq_true rfl⟩) rfl rfl (Nat.le_of_ble_eq_true rfl) (fun r13 u13 hp13 => ?_)
  replace hp13 := hp13.symm; subst hp13
  refine z_isub (pc' := 17) X dX6_threesBy_16 rfl ?_
  exact z_iret (post := (fun (rv : Int) (_ : Unit) => rv = th w - th v)) X dX6_threesBy_17 hret () (by rw [tin3 hr.1, tin3 hr.2])
set_option maxHeartbeats 4000000 in
set_option maxRecDepth 100000 in
theorem kX6_isPlayed (l : Launch) (D : va_G) (E : Nat → Nat) (p_ twos threes : Int) (hr : (20 ≤ p_ ∧ p_ ≤ 400) ∧ (-2147483648 ≤ twos ∧ twos < 2147483648) ∧ (-2147483648 ≤ threes ∧ threes < 2147483648)) : CtI l D E yX6_isPlayed wsX6_isPlayed ({ frames := 1, cells := 0, slots := 0, locals := 24 } : Room) [.int (jI p_), .int (jI twos), .int (jI threes)] ([]) (fun _ : Unit => ([] : va_W)) (fun (rv : Int) (_ : Unit) => ((rv = 1 ∧ (inB p_ twos threes)) ∨ (rv = 0 ∧ ¬ (inB p_ twos threes)))) := by
  refine mk_I (cc := cX6_isPlayed) (maxL := 7) (ret := some .boolean) (by decide) rfl (Nat.le_of_ble_eq_true rfl) ?_
  intro p e s m args below meth c A X hret
  refine z_lv (lv' := [(0, .int (jI p_)), (1, .int (jI twos)), (2, .int (jI threes))]) [0, 1, 2] rfl ?_
  refine z_iload_n (pc' := 1) X dX6_isPlayed_0 rfl 1 rfl rfl ?_
  refine z_bipush (pc' := 3) X dX6_isPlayed_1 rfl rfl ?_
  refine z_bipush (pc' := 5) X dX6_isPlayed_3 rfl rfl ?_
  refine z_callPI (pc' := 8) (S := Unit) (As := [.int (jI twos), .int (jI (-30)), .int (jI 30)]) (rest := []) X dX6_isPlayed_5 rfl (kX6_isIn l D E twos (-30) 30  (by omega)) (va_cwS 3 X.1.2.2.2.2 gX6_isPlayed_X6_isIn rfl rfl rfl (by decide +kernel) ⟨Nat.le_of_ble_eq_true rfl, Nat.le_of_ble_eq_true rfl⟩) rfl rfl (Nat.le_of_ble_eq_true rfl) (fun r5 u5 hp5 => ?_)
  skip
  rcases hp5 with ⟨rfl, hp5⟩ | ⟨rfl, hp5⟩
  · refine z_if_eq (tgt := 22) (pc' := 11) X dX6_isPlayed_8 (by decide) rfl (by omega) (fun h => absurd h (by decide)) (fun _ => ?_)
    refine z_iload_n (pc' := 12) X dX6_isPlayed_11 rfl 2 rfl rfl ?_
    refine z_bipush (pc' := 14) X dX6_isPlayed_12 rfl rfl ?_
    refine z_bipush (pc' := 16) X dX6_isPlayed_14 rfl rfl ?_
    refine z_callPI (pc' := 19) (S := Unit) (As := [.int (jI threes), .int (jI (-10)), .int (jI 10)]) (rest := []) X dX6_isPlayed_16 rfl (kX6_isIn l D E threes (-10) 10  (by omega)) (va_cwS 3 X.1.2.2.2.2 gX6_isPlayed_X6_isIn rfl rfl rfl (by decide +kernel) ⟨Nat.le_of_ble_eq_true rfl, Nat.le_of_ble_eq_true rfl⟩) rfl rfl (Nat.le_of_ble_eq_true rfl) (fun r16 u16 hp16 => ?_)
    skip
    rcases hp16 with ⟨rfl, hp16⟩ | ⟨rfl, hp16⟩
    · refine z_if_ne (tgt := 24) (pc' := 22) X dX6_isPlayed_19 (by decide) rfl (by omega) (fun _ => ?_) (fun h => absurd h (by decide))
      refine z_iload_n (pc' := 25) X dX6_isPlayed_24 rfl 0 rfl rfl ?_
      refine z_i2l (pc' := 26) X dX6_isPlayed_25 rfl (by omega) ?_
      refine z_iconst (pc' := 27) X dX6_isPlayed_26 rfl ?_
      refine z_iload_n (pc' := 28) X dX6_isPlayed_27 rfl 1 rfl rfl ?_
      have jn36 : ∀ (v36 : Int), (v36.toNat = twos.toNat ∧ -2147483648 ≤ v36 ∧ v36 < 2147483648) → J p l e (headSpec wsX6_isPlayed ({ frames := 1, cells := 0, slots := 0, locals := 24 } : Room)).room s m args below meth c D A 7 (MQ below (va_Qi (fun r u => ∃ x, r = jI x ∧ (fun (rv : Int) (_ : Unit) => ((rv = 1 ∧ (inB p_ twos threes)) ∨ (rv = 0 ∧ ¬ (inB p_ twos threes)))) x u) (Bw D (fun _ : Unit => ([] : va_W)) A) A) args s 0 0 A) 36 [(0, .int (jI p_)), (1, .int (jI twos)), (2, .int (jI threes))] [.int (jI v36), .int (jI 2), .long (jL p_)] ([]) := by
        intro v36 hj36
        refine z_callPL (pc' := 39) (S := Unit) (As := [.int (jI 2), .int (jI v36)]) (rest := [.long (jL p_)]) X dX6_isPlayed_36 rfl (kX6_power l D E 2 v36  (by omega)) (va_cwS 2 X.1.2.2.2.2 gX6_isPlayed_X6_power rfl rfl rfl (by decide +kernel) ⟨Nat.le_of_ble_eq_true rfl, Nat.le_of_ble_eq_true rfl⟩) rfl rfl (Nat.le_of_ble_eq_true rfl) (fun r36 u36 hp36 => ?_)
        replace hp36 := hp36.symm; subst hp36
        refine z_lmul (pc' := 40) X dX6_isPlayed_39 rfl ?_
        refine z_iconst (pc' := 41) X dX6_isPlayed_40 rfl ?_
        refine z_iload_n (pc' := 42) X dX6_isPlayed_41 rfl 2 rfl rfl ?_
        have jn50 : ∀ (v50 : Int), (v50.toNat = threes.toNat ∧ -2147483648 ≤ v50 ∧ v50 < 2147483648) → J p l e (headSpec wsX6_isPlayed ({ frames := 1, cells := 0, slots := 0, locals := 24 } : Room)).room s m args below meth c D A 7 (MQ below (va_Qi (fun r u => ∃ x, r = jI x ∧ (fun (rv : Int) (_ : Unit) => ((rv = 1 ∧ (inB p_ twos threes)) ∨ (rv = 0 ∧ ¬ (inB p_ twos threes)))) x u) (Bw D (fun _ : Unit => ([] : va_W)) A) A) args s 0 0 A) 50 [(0, .int (jI p_)), (1, .int (jI twos)), (2, .int (jI threes))] [.int (jI v50), .int (jI 3), .long (jL (p_ * (2 ^ v36.toNat)))] ([]) := by
          intro v50 hj50
          refine z_callPL (pc' := 53) (S := Unit) (As := [.int (jI 3), .int (jI v50)]) (rest := [.long (jL (p_ * (2 ^ v36.toNat)))]) X dX6_isPlayed_50 rfl (kX6_power l D E 3 v50  (by omega)) (va_cwS 2 X.1.2.2.2.2 gX6_isPlayed_X6_power rfl rfl rfl (by decide +kernel) ⟨Nat.le_of_ble_eq_true rfl, Nat.le_of_ble_eq_true rfl⟩) rfl rfl (Nat.le_of_ble_eq_true rfl) (fun r50 u50 hp50 => ?_)
          replace hp50 := hp50.symm; subst hp50
          refine z_lmul (pc' := 54) X dX6_isPlayed_53 rfl ?_
          refine z_lstore_n (pc' := 55) (lv' := [(3, .long (jL ((p_ * (2 ^ v36.toNat)) * (3 ^ v50.toNat)))), (0, .int (jI p_)), (1, .int (jI twos)), (2, .int (jI threes))]) X dX6_isPlayed_54 rfl rfl (by decide) rfl ?_
          refine z_iconst (pc' := 56) X dX6_isPlayed_55 rfl ?_
          refine z_iload_n (pc' := 57) X dX6_isPlayed_56 rfl 2 rfl rfl ?_
          have jn66 : ∀ (v66 : Int), (v66.toNat = (-twos).toNat ∧ -2147483648 ≤ v66 ∧ v66 < 2147483648) → J p l e (headSpec wsX6_isPlayed ({ frames := 1, cells := 0, slots := 0, locals := 24 } : Room)).room s m args below meth c D A 7 (MQ below (va_Qi (fun r u => ∃ x, r = jI x ∧ (fun (rv : Int) (_ : Unit) => ((rv = 1 ∧ (inB p_ twos threes)) ∨ (rv = 0 ∧ ¬ (inB p_ twos threes)))) x u) (Bw D (fun _ : Unit => ([] : va_W)) A) A) args s 0 0 A) 66 [(3, .long (jL ((p_ * (2 ^ v36.toNat)) * (3 ^ v50.toNat)))), (0, .int (jI p_)), (1, .int (jI twos)), (2, .int (jI threes))] [.int (jI v66), .int (jI 2)] ([]) := by
            intro v66 hj66
            refine z_callPL (pc' := 69) (S := Unit) (As := [.int (jI 2), .int (jI v66)]) (rest := []) X dX6_isPlayed_66 rfl (kX6_power l D E 2 v66  (by omega)) (va_cwS 2 X.1.2.2.2.2 gX6_isPlayed_X6_power rfl rfl rfl (by decide +kernel) ⟨Nat.le_of_ble_eq_true rfl, Nat.le_of_ble_eq_true rfl⟩) rfl rfl (Nat.le_of_ble_eq_true rfl) (fun r66 u66 hp66 => ?_)
            replace hp66 := hp66.symm; subst hp66
            refine z_iconst (pc' := 70) X dX6_isPlayed_69 rfl ?_
            refine z_iload_n (pc' := 71) X dX6_isPlayed_70 rfl 3 rfl rfl ?_
            have jn80 : ∀ (v80 : Int), (v80.toNat = (-threes).toNat ∧ -2147483648 ≤ v80 ∧ v80 < 2147483648) → J p l e (headSpec wsX6_isPlayed ({ frames := 1, cells := 0, slots := 0, locals := 24 } : Room)).room s m args below meth c D A 7 (MQ below (va_Qi (fun r u => ∃ x, r = jI x ∧ (fun (rv : Int) (_ : Unit) => ((rv = 1 ∧ (inB p_ twos threes)) ∨ (rv = 0 ∧ ¬ (inB p_ twos threes)))) x u) (Bw D (fun _ : Unit => ([] : va_W)) A) A) args s 0 0 A) 80 [(3, .long (jL ((p_ * (2 ^ v36.toNat)) * (3 ^ v50.toNat)))), (0, .int (jI p_)), (1, .int (jI twos)), (2, .int (jI threes))] [.int (jI v80), .int (jI 3), .long (jL (2 ^ v66.toNat))] ([]) := by
              intro v80 hj80
              refine z_callPL (pc' := 83) (S := Unit) (As := [.int (jI 3), .int (jI v80)]) (rest := [.long (jL (2 ^ v66.toNat))]) X dX6_isPlayed_80 rfl (kX6_power l D E 3 v80  (by omega)) (va_cwS 2 X.1.2.2.2.2 gX6_isPlayed_X6_power rfl rfl rfl (by decide +kernel) ⟨Nat.le_of_ble_eq_true rfl, Nat.le_of_ble_eq_true rfl⟩) rfl rfl (Nat.le_of_ble_eq_true rfl) (fun r80 u80 hp80 => ?_)
              replace hp80 := hp80.symm; subst hp80
              refine z_lmul (pc' := 84) X dX6_isPlayed_83 rfl ?_
              refine z_lstore (pc' := 86) (lv' := [(5, .long (jL ((2 ^ v66.toNat) * (3 ^ v80.toNat)))), (3, .long (jL ((p_ * (2 ^ v36.toNat)) * (3 ^ v50.toNat)))), (0, .int (jI p_)), (1, .int (jI twos)), (2, .int (jI threes))]) X dX6_isPlayed_84 rfl (by decide) rfl ?_
              refine z_lload_n (pc' := 87) X dX6_isPlayed_86 rfl 1 rfl rfl ?_
              refine z_ldc2 (pc' := 90) (x := 20) X dX6_isPlayed_87 rfl (by decide +kernel) rfl ?_
              refine z_lload (pc' := 92) X dX6_isPlayed_90 rfl 0 rfl ?_
              refine z_lmul (pc' := 93) X dX6_isPlayed_92 rfl ?_
              refine z_lcmp_lt (tgt := 112) (pc' := 97) X dX6_isPlayed_93 (pc1 := 94) rfl dX6_isPlayed_94 (by decide) rfl (by (rw [hj36.1, hj50.1, hj66.1, hj80.1]; have h1 := inB_up (p := p_) (x := twos) (y := threes) (by omega) (by omega) (by omega); have h2 := inB_low (x := twos) (y := threes) (by omega) (by omega); omega)) (fun h93 => ?_) (fun h93 => ?_)
              · refine z_iconst (pc' := 113) X dX6_isPlayed_112 rfl ?_
                exact z_zret (post := (fun (rv : Int) (_ : Unit) => ((rv = 1 ∧ (inB p_ twos threes)) ∨ (rv = 0 ∧ ¬ (inB p_ twos threes))))) X dX6_isPlayed_113 hret () (by first | decide | omega) (by rw [hj36.1, hj50.1, hj66.1, hj80.1] at *; first | exact Or.inl ⟨rfl, by omega, by omega, h93, h104⟩ | exact Or.inr ⟨rfl, fun q => by unfold inB at q; omega⟩)
              · refine z_lload_n (pc' := 98) X dX6_isPlayed_97 rfl 1 rfl rfl ?_
                refine z_ldc2 (pc' := 101) (x := 400) X dX6_isPlayed_98 rfl (by decide +kernel) rfl ?_
                refine z_lload (pc' := 103) X dX6_isPlayed_101 rfl 0 rfl ?_
                refine z_lmul (pc' := 104) X dX6_isPlayed_103 rfl ?_
                refine z_lcmp_gt (tgt := 112) (pc' := 108) X dX6_isPlayed_104 (pc1 := 105) rfl dX6_isPlayed_105 (by decide) rfl (by (rw [hj36.1, hj50.1, hj66.1, hj80.1]; have h1 := inB_up (p := p_) (x := twos) (y := threes) (by omega) (by omega) (by omega); have h2 := inB_low (x := twos) (y := threes) (by omega) (by omega); omega)) (fun h104 => ?_) (fun h104 => ?_)
                · refine z_iconst (pc' := 113) X dX6_isPlayed_112 rfl ?_
                  exact z_zret (post := (fun (rv : Int) (_ : Unit) => ((rv = 1 ∧ (inB p_ twos threes)) ∨ (rv = 0 ∧ ¬ (inB p_ twos threes))))) X dX6_isPlayed_113 hret () (by first | decide | omega) (by rw [hj36.1, hj50.1, hj66.1, hj80.1] at *; first | exact Or.inl ⟨rfl, by omega, by omega, h93, h104⟩ | exact Or.inr ⟨rfl, fun q => by unfold inB at q; omega⟩)
                · refine z_iconst (pc' := 109) X dX6_isPlayed_108 rfl ?_
                  refine z_goto (tgt := 113) X dX6_isPlayed_109 (by decide) ?_
                  exact z_zret (post := (fun (rv : Int) (_ : Unit) => ((rv = 1 ∧ (inB p_ twos threes)) ∨ (rv = 0 ∧ ¬ (inB p_ twos threes))))) X dX6_isPlayed_113 hret () (by first | decide | omega) (by rw [hj36.1, hj50.1, hj66.1, hj80.1] at *; first | exact Or.inl ⟨rfl, by omega, by omega, h93, h104⟩ | exact Or.inr ⟨rfl, fun q => by unfold inB at q; omega⟩)
            refine z_if_ge (tgt := 79) (pc' := 74) X dX6_isPlayed_71 (by decide) rfl (by omega) (fun h71 => ?_) (fun h71 => ?_)
            · refine z_iconst (pc' := 80) X dX6_isPlayed_79 rfl ?_
              exact jn80 0 (by omega)
            · refine z_iload_n (pc' := 75) X dX6_isPlayed_74 rfl 3 rfl rfl ?_
              refine z_ineg (pc' := 76) X dX6_isPlayed_75 rfl ?_
              refine z_goto (tgt := 80) X dX6_isPlayed_76 (by decide) ?_
              exact jn80 (-threes) (by omega)
          refine z_if_ge (tgt := 65) (pc' := 60) X dX6_isPlayed_57 (by decide) rfl (by omega) (fun h57 => ?_) (fun h57 => ?_)
          · refine z_iconst (pc' := 66) X dX6_isPlayed_65 rfl ?_
            exact jn66 0 (by omega)
          · refine z_iload_n (pc' := 61) X dX6_isPlayed_60 rfl 2 rfl rfl ?_
            refine z_ineg (pc' := 62) X dX6_isPlayed_61 rfl ?_
            refine z_goto (tgt := 66) X dX6_isPlayed_62 (by decide) ?_
            exact jn66 (-twos) (by omega)
        refine z_if_le (tgt := 49) (pc' := 45) X dX6_isPlayed_42 (by decide) rfl (by omega) (fun h42 => ?_) (fun h42 => ?_)
        · refine z_iconst (pc' := 50) X dX6_isPlayed_49 rfl ?_
          exact jn50 0 (by omega)
        · refine z_iload_n (pc' := 46) X dX6_isPlayed_45 rfl 2 rfl rfl ?_
          refine z_goto (tgt := 50) X dX6_isPlayed_46 (by decide) ?_
          exact jn50 threes (by omega)
      refine z_if_le (tgt := 35) (pc' := 31) X dX6_isPlayed_28 (by decide) rfl (by omega) (fun h28 => ?_) (fun h28 => ?_)
      · refine z_iconst (pc' := 36) X dX6_isPlayed_35 rfl ?_
        exact jn36 0 (by omega)
      · refine z_iload_n (pc' := 32) X dX6_isPlayed_31 rfl 1 rfl rfl ?_
        refine z_goto (tgt := 36) X dX6_isPlayed_32 (by decide) ?_
        exact jn36 twos (by omega)
    · refine z_if_ne (tgt := 24) (pc' := 22) X dX6_isPlayed_19 (by decide) rfl (by omega) (fun h => absurd h (by decide)) (fun _ => ?_)
      refine z_iconst (pc' := 23) X dX6_isPlayed_22 rfl ?_
      exact z_zret (post := (fun (rv : Int) (_ : Unit) => ((rv = 1 ∧ (inB p_ twos threes)) ∨ (rv = 0 ∧ ¬ (inB p_ twos threes))))) X dX6_isPlayed_23 hret () (by first | decide | omega) (Or.inr ⟨rfl, fun q => by unfold inB at q; omega⟩)
  · refine z_if_eq (tgt := 22) (pc' := 11) X dX6_isPlayed_8 (by decide) rfl (by omega) (fun _ => ?_) (fun h => absurd h (by decide))
    refine z_iconst (pc' := 23) X dX6_isPlayed_22 rfl ?_
    exact z_zret (post := (fun (rv : Int) (_ : Unit) => ((rv = 1 ∧ (inB p_ twos threes)) ∨ (rv = 0 ∧ ¬ (inB p_ twos threes))))) X dX6_isPlayed_23 hret () (by first | decide | omega) (Or.inr ⟨rfl, fun q => by unfold inB at q; omega⟩)
