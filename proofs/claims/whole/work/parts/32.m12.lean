theorem pv_rr {p q set r : Int} {u : St} (h : ((∀ X Y, TG p q X Y → ¬ rch p set X Y 5 0 0) ∧ r = -9) ∨ (∃ X Y, TG p q X Y ∧ ∃ d n : Nat, d ≤ n ∧ n ≤ 5 ∧ r = d ∧ lv p set X Y d 0 0 ∧ LVS p set X Y u n)) : r = -9 ∨ (0 ≤ r ∧ r ≤ 5) := by
  rcases h with ⟨-, h⟩ | ⟨X, Y, -, d, n, h1, h2, h3, -⟩
  · exact Or.inl h
  · right; omega
theorem pv_none {p q set k r : Int} {u : St} (hr : (20 ≤ p ∧ p ≤ 400) ∧ (20 ≤ q ∧ q ≤ 400) ∧ (0 ≤ set ∧ set ≤ 1048575) ∧ (-1 ≤ k ∧ k ≤ 4)) (h9 : r = -9) (h : ((∀ X Y, TG p q X Y → ¬ rch p set X Y 5 0 0) ∧ r = -9) ∨ (∃ X Y, TG p q X Y ∧ ∃ d n : Nat, d ≤ n ∧ n ≤ 5 ∧ r = d ∧ lv p set X Y d 0 0 ∧ LVS p set X Y u n)) : fPivots p q set k r := by
  rcases h with ⟨h, -⟩ | ⟨X, Y, -, d, n, h1, h2, h3, -⟩
  · exact Or.inr (Or.inl ⟨hr, h, h9⟩)
  · omega
theorem pv_m1 {p q set k r : Int} {u : St} (hr : (20 ≤ p ∧ p ≤ 400) ∧ (20 ≤ q ∧ q ≤ 400) ∧ (0 ≤ set ∧ set ≤ 1048575) ∧ (-1 ≤ k ∧ k ≤ 4)) (hk : k = -1) (h9 : ¬ r = -9) (h : ((∀ X Y, TG p q X Y → ¬ rch p set X Y 5 0 0) ∧ r = -9) ∨ (∃ X Y, TG p q X Y ∧ ∃ d n : Nat, d ≤ n ∧ n ≤ 5 ∧ r = d ∧ lv p set X Y d 0 0 ∧ LVS p set X Y u n)) : fPivots p q set k r := by
  obtain ⟨X, Y, hT, d, n, h1, h2, h3, h4, -⟩ := h.resolve_left (fun z => h9 z.2)
  exact Or.inr (Or.inr ⟨hr, X, Y, hT, d, by omega, h4, Or.inl ⟨hk, h3⟩⟩)
theorem pv_over {p q set k r : Int} {u : St} (hr : (20 ≤ p ∧ p ≤ 400) ∧ (20 ≤ q ∧ q ≤ 400) ∧ (0 ≤ set ∧ set ≤ 1048575) ∧ (-1 ≤ k ∧ k ≤ 4)) (hk : 0 ≤ k) (h9 : ¬ r = -9) (hkr : r ≤ k) (h : ((∀ X Y, TG p q X Y → ¬ rch p set X Y 5 0 0) ∧ r = -9) ∨ (∃ X Y, TG p q X Y ∧ ∃ d n : Nat, d ≤ n ∧ n ≤ 5 ∧ r = d ∧ lv p set X Y d 0 0 ∧ LVS p set X Y u n)) : fPivots p q set k (-9) := by
  obtain ⟨X, Y, hT, d, n, h1, h2, h3, h4, -⟩ := h.resolve_left (fun z => h9 z.2)
  exact Or.inr (Or.inr ⟨hr, X, Y, hT, d, by omega, h4, Or.inr (Or.inl ⟨by omega, rfl⟩)⟩)
/-- goesBy finds one, and it is the first that is a step nearer -/
theorem pv_ex {p set X Y xx yy x k at_ r : Int} {u u2 u3 : St} {d n : Nat} (hx : (0 ≤ x ∧ x ≤ k) ∧ k < d) (hTi : inB p X Y) (g3 : at_ = sIx xx yy ∧ (-30 ≤ xx ∧ xx ≤ 30) ∧ (-10 ≤ yy ∧ yy ≤ 10)) (hL : LVS p set X Y u n) (hdn : d ≤ n) (hk : 0 ≤ k) (g2 : ∀ F, F ≠ 18 → u2 F = u F) (hl : lv p set X Y (d - x.toNat) xx yy)
    (hg : (∃ c, (0 ≤ c ∧ c < 400) ∧ (stp set c ∧ inB p (at_ / 21 - 30 + dX c) (at_ % 21 - 10 + dY c) ∧ u2 17 (sIx (at_ / 21 - 30 + dX c) (at_ % 21 - 10 + dY c)) = u2 17 at_ - 1) ∧ (∀ c2, 0 ≤ c2 → c2 < c → ¬ (stp set c2 ∧ inB p (at_ / 21 - 30 + dX c2) (at_ % 21 - 10 + dY c2) ∧ u2 17 (sIx (at_ / 21 - 30 + dX c2) (at_ % 21 - 10 + dY c2)) = u2 17 at_ - 1)) ∧ u3 18 0 = 100 * (c / 20) + c % 20 ∧ r = sIx (at_ / 21 - 30 + dX c) (at_ % 21 - 10 + dY c)) ∨ ((∀ c, 0 ≤ c → c < 400 → ¬ (stp set c ∧ inB p (at_ / 21 - 30 + dX c) (at_ % 21 - 10 + dY c) ∧ u2 17 (sIx (at_ / 21 - 30 + dX c) (at_ % 21 - 10 + dY c)) = u2 17 at_ - 1)) ∧ r = at_)) :
    ∃ c, (0 ≤ c ∧ c < 400) ∧ gdC p set X Y (d - x.toNat) xx yy c ∧ (∀ c2, 0 ≤ c2 → c2 < c → ¬ gdC p set X Y (d - x.toNat) xx yy c2) ∧ u3 18 0 = 100 * (c / 20) + c % 20 ∧ r = sIx (xx + dX c) (yy + dY c) := by
  obtain ⟨g0, g1, g4⟩ := g3
  have e1 : at_ / 21 - 30 = xx := by rw [g0]; unfold sIx; omega
  have e2 : at_ % 21 - 10 = yy := by rw [g0]; unfold sIx; omega
  rw [e1, e2] at hg
  have hv : u2 17 at_ = ((d - x.toNat : Nat) : Int) := by
    rw [g2 17 (by decide), g0]
    exact (LVS_is hL g1 g4 (by omega)).mpr hl
  have iff : ∀ c, 0 ≤ c → c < 400 → ((stp set c ∧ inB p (xx + dX c) (yy + dY c) ∧ u2 17 (sIx (xx + dX c) (yy + dY c)) = u2 17 at_ - 1) ↔ gdC p set X Y (d - x.toNat) xx yy c) := by
    intro c c0 c1
    unfold gdC
    constructor
    · rintro ⟨a1, a2, a3⟩
      refine ⟨a1, a2, ?_⟩
      rw [hv, g2 17 (by decide)] at a3
      exact (LVS_is hL a2.1 a2.2.1 (by omega)).mp (by rw [a3]; omega)
    · rintro ⟨a1, a2, a3⟩
      refine ⟨a1, a2, ?_⟩
      rw [hv, g2 17 (by decide), (LVS_is hL a2.1 a2.2.1 (e := d - x.toNat - 1) (by omega)).mpr a3]
      omega
  rcases hg with ⟨c, c1, c2, c3, c4, c5⟩ | ⟨c1, -⟩
  · exact ⟨c, c1, (iff c c1.1 c1.2).mp c2, fun c' a1 a2 z => c3 c' a1 a2 ((iff c' a1 (by omega)).mpr z), c4, c5⟩
  · obtain ⟨c, k1, k2⟩ := lv_next hTi (d := d - x.toNat - 1) (by rw [show d - x.toNat - 1 + 1 = d - x.toNat by omega]; exact hl)
    rw [show d - x.toNat - 1 + 1 = d - x.toNat by omega] at k2
    exact absurd ((iff c k1.1 k1.2).mpr k2) (c1 c k1.1 k1.2)
theorem pv_step {p set X Y xx yy x k at_ r c : Int} {u u2 u3 : St} {d n : Nat} (hx : (0 ≤ x ∧ x ≤ k) ∧ k < d) (hn5 : n ≤ 5) (hTi : inB p X Y) (g3 : at_ = sIx xx yy ∧ (-30 ≤ xx ∧ xx ≤ 30) ∧ (-10 ≤ yy ∧ yy ≤ 10)) (hL : LVS p set X Y u n) (hdn : d ≤ n) (hk : 0 ≤ k) (g2 : ∀ F, F ≠ 18 → u2 F = u F)
    (g4 : lv p set X Y (d - x.toNat) xx yy ∧ ∀ r, RWk p set X Y (k - x).toNat (d - x.toNat) xx yy r → RWk p set X Y k.toNat d 0 0 r) (hn : ∀ F, F ≠ 18 → u3 F = u2 F) (c1 : 0 ≤ c ∧ c < 400) (c2 : gdC p set X Y (d - x.toNat) xx yy c) (c3 : ∀ c2, 0 ≤ c2 → c2 < c → ¬ gdC p set X Y (d - x.toNat) xx yy c2) (c4 : u3 18 0 = 100 * (c / 20) + c % 20) (c5 : r = sIx (xx + dX c) (yy + dY c)) :
    (0 ≤ x + 1 ∧ x + 1 ≤ k + 1) ∧ (∀ F, F ≠ 18 → u3 F = u F) ∧ (r = sIx (xx + dX c) (yy + dY c) ∧ (-30 ≤ xx + dX c ∧ xx + dX c ≤ 30) ∧ (-10 ≤ yy + dY c ∧ yy + dY c ≤ 10)) ∧ (x + 1 ≤ k → lv p set X Y (d - (x + 1).toNat) (xx + dX c) (yy + dY c) ∧ ∀ r, RWk p set X Y (k - (x + 1)).toNat (d - (x + 1).toNat) (xx + dX c) (yy + dY c) r → RWk p set X Y k.toNat d 0 0 r) ∧ (x + 1 = k + 1 → RWk p set X Y k.toNat d 0 0 (u3 18 0)) := by
  have hf : fsC p set X Y (d - x.toNat) xx yy c := ⟨c1, c2, c3⟩
  have ed : d - x.toNat - 1 = d - (x + 1).toNat := by omega
  have hb := c2.2.1
  refine ⟨by omega, fun F hF => by rw [hn F hF, g2 F hF], ⟨c5, hb.1, hb.2.1⟩, fun q => ⟨by rw [← ed]; exact c2.2.2, fun r hr => g4.2 r ?_⟩, fun q => g4.2 _ ?_⟩
  · rw [show (k - x).toNat = (k - (x + 1)).toNat + 1 by omega]
    exact ⟨c, hf, by rw [ed]; exact hr⟩
  · rw [show (k - x).toNat = 0 by omega]
    exact ⟨c, hf, c4⟩

set_option maxHeartbeats 4000000 in
set_option maxRecDepth 100000 in
theorem kX6_pivots (l : Launch) (D : va_G) (E : Nat → Nat) (q : Nat → Nat) (σ : St) (p_ q_ set k : Int) (hr : (-2147483648 ≤ p_ ∧ p_ < 2147483648) ∧ (-2147483648 ≤ q_ ∧ q_ < 2147483648) ∧ (-2147483648 ≤ set ∧ set < 2147483648) ∧ (-2147483648 ≤ k ∧ k < 2147483648)) : CtI l D E yX6_pivots wsX6_pivots ({ frames := 4, cells := 0, slots := 0, locals := 108 } : Room) [.ref (q 0), .int (jI p_), .int (jI q_), .int (jI set), .int (jI k)] (MW E q σ) (MW E q) (fun (rv : Int) (uu : St) => (fPivots p_ q_ set k rv ∧ (∀ F, F ≠ 17 → F ≠ 18 → uu F = σ F))) := by
  refine mk_I (cc := cX6_pivots) (maxL := 8) (ret := some .int) (by decide) rfl (Nat.le_of_ble_eq_true rfl) ?_
  intro p e s m args below meth c A X hret
  have hin6 : ∀ x ∈ u_ws RX6 TX6 19, x ∈ wsX6_pivots := fun _ h => List.mem_cons_of_mem _ (List.mem_append_right _ h)
  refine z_lv (lv' := [(0, .ref (q 0)), (1, .int (jI p_)), (2, .int (jI q_)), (3, .int (jI set)), (4, .int (jI k))]) [0, 1, 2, 3, 4] rfl ?_
  refine z_iload_n (pc' := 1) X dX6_pivots_0 rfl 1 rfl rfl ?_
  refine z_bipush (pc' := 3) X dX6_pivots_1 rfl rfl ?_
  refine z_sipush (pc' := 6) X dX6_pivots_3 rfl rfl ?_
  refine z_callPI (pc' := 9) (S := Unit) (As := [.int (jI p_), .int (jI 20), .int (jI 400)]) (rest := []) X dX6_pivots_6 rfl (kX6_isIn l D E p_ 20 400  (by omega)) (va_cwS 3 X.1.2.2.2.2 gX6_pivots_X6_isIn rfl rfl rfl (by decide +kernel) ⟨Nat.le_of_ble_eq_true rfl, Nat.le_of_ble_eq_true rfl⟩) rfl rfl (Nat.le_of_ble_eq_true rfl) (fun r6 u6 hp6 => ?_)
  skip
  rcases hp6 with ⟨rfl, hp6⟩ | ⟨rfl, hp6⟩
  · refine z_if_eq (tgt := 44) (pc' := 12) X dX6_pivots_9 (by decide) rfl (by omega) (fun h => absurd h (by decide)) (fun _ => ?_)
    refine z_iload_n (pc' := 13) X dX6_pivots_12 rfl 2 rfl rfl ?_
    refine z_bipush (pc' := 15) X dX6_pivots_13 rfl rfl ?_
    refine z_sipush (pc' := 18) X dX6_pivots_15 rfl rfl ?_
    refine z_callPI (pc' := 21) (S := Unit) (As := [.int (jI q_), .int (jI 20), .int (jI 400)]) (rest := []) X dX6_pivots_18 rfl (kX6_isIn l D E q_ 20 400  (by omega)) (va_cwS 3 X.1.2.2.2.2 gX6_pivots_X6_isIn rfl rfl rfl (by decide +kernel) ⟨Nat.le_of_ble_eq_true rfl, Nat.le_of_ble_eq_true rfl⟩) rfl rfl (Nat.le_of_ble_eq_true rfl) (fun r18 u18 hp18 => ?_)
    skip
    rcases hp18 with ⟨rfl, hp18⟩ | ⟨rfl, hp18⟩
    · refine z_if_eq (tgt := 44) (pc' := 24) X dX6_pivots_21 (by decide) rfl (by omega) (fun h => absurd h (by decide)) (fun _ => ?_)
      refine z_iload_n (pc' := 25) X dX6_pivots_24 rfl 3 rfl rfl ?_
      refine z_iconst (pc' := 26) X dX6_pivots_25 rfl ?_
      refine z_ldc (pc' := 28) (x := 1048575) X dX6_pivots_26 rfl (by decide +kernel) rfl ?_
      refine z_callPI (pc' := 31) (S := Unit) (As := [.int (jI set), .int (jI 0), .int (jI 1048575)]) (rest := []) X dX6_pivots_28 rfl (kX6_isIn l D E set 0 1048575  (by omega)) (va_cwS 3 X.1.2.2.2.2 gX6_pivots_X6_isIn rfl rfl rfl (by decide +kernel) ⟨Nat.le_of_ble_eq_true rfl, Nat.le_of_ble_eq_true rfl⟩) rfl rfl (Nat.le_of_ble_eq_true rfl) (fun r28 u28 hp28 => ?_)
      skip
      rcases hp28 with ⟨rfl, hp28⟩ | ⟨rfl, hp28⟩
      · refine z_if_eq (tgt := 44) (pc' := 34) X dX6_pivots_31 (by decide) rfl (by omega) (fun h => absurd h (by decide)) (fun _ => ?_)
        refine z_iload (pc' := 36) X dX6_pivots_34 rfl 4 rfl ?_
        refine z_iconst (pc' := 37) X dX6_pivots_36 rfl ?_
        refine z_iconst (pc' := 38) X dX6_pivots_37 rfl ?_
        refine z_callPI (pc' := 41) (S := Unit) (As := [.int (jI k), .int (jI (-1)), .int (jI 4)]) (rest := []) X dX6_pivots_38 rfl (kX6_isIn l D E k (-1) 4  (by omega)) (va_cwS 3 X.1.2.2.2.2 gX6_pivots_X6_isIn rfl rfl rfl (by decide +kernel) ⟨Nat.le_of_ble_eq_true rfl, Nat.le_of_ble_eq_true rfl⟩) rfl rfl (Nat.le_of_ble_eq_true rfl) (fun r38 u38 hp38 => ?_)
        skip
        rcases hp38 with ⟨rfl, hp38⟩ | ⟨rfl, hp38⟩
        · refine z_if_ne (tgt := 47) (pc' := 44) X dX6_pivots_41 (by decide) rfl (by omega) (fun _ => ?_) (fun h => absurd h (by decide))
          refine z_aload_n (pc' := 48) X dX6_pivots_47 rfl 0 rfl rfl ?_
          refine z_iload_n (pc' := 49) X dX6_pivots_48 rfl 1 rfl rfl ?_
          refine z_iload_n (pc' := 50) X dX6_pivots_49 rfl 2 rfl rfl ?_
          refine z_iload_n (pc' := 51) X dX6_pivots_50 rfl 3 rfl rfl ?_
          refine z_callVI (pc' := 54) (S := St) (As := [.int (jI p_), .int (jI q_), .int (jI set)]) (rest := []) X dX6_pivots_51 rfl (kX6_findSteps l D E q σ p_ q_ set  (by omega)) (cwV 3 X.1.2.2.2.2 gX6_pivots_X6_findSteps rfl rfl rfl (by decide +kernel) ⟨Nat.le_of_ble_eq_true rfl, Nat.le_of_ble_eq_true rfl⟩) 0 rfl rfl rfl rfl (Nat.le_of_ble_eq_true rfl) (fun r51 u51 hp51 => ?_)
          obtain ⟨hn51, hf51⟩ := hp51
          have hrr := pv_rr hf51
          refine z_istore (pc' := 56) (lv' := [(5, .int (jI r51)), (0, .ref (q 0)), (1, .int (jI p_)), (2, .int (jI q_)), (3, .int (jI set)), (4, .int (jI k))]) X dX6_pivots_54 rfl (by decide) rfl ?_
          refine z_iload (pc' := 58) X dX6_pivots_56 rfl 0 rfl ?_
          refine z_bipush (pc' := 60) X dX6_pivots_58 rfl rfl ?_
          refine z_icmp_eq (tgt := 68) (pc' := 63) X dX6_pivots_60 (by decide) rfl (by omega) (fun h60 => ?_) (fun h60 => ?_)
          · refine z_iload (pc' := 70) X dX6_pivots_68 rfl 0 rfl ?_
            exact z_iret (post := (fun (rv : Int) (uu : St) => (fPivots p_ q_ set k rv ∧ (∀ F, F ≠ 17 → F ≠ 18 → uu F = σ F)))) X dX6_pivots_70 hret u51 (by first | exact ⟨pv_none (by omega) h60 hf51, fun F a _ => hn51 F a⟩ | exact ⟨pv_m1 (by omega) (by omega) h60 hf51, fun F a _ => hn51 F a⟩)
          · refine z_iload (pc' := 65) X dX6_pivots_63 rfl 5 rfl ?_
            refine z_if_ge (tgt := 71) (pc' := 68) X dX6_pivots_65 (by decide) rfl (by omega) (fun h65 => ?_) (fun h65 => ?_)
            · refine z_iload (pc' := 73) X dX6_pivots_71 rfl 5 rfl ?_
              refine z_iload (pc' := 75) X dX6_pivots_73 rfl 0 rfl ?_
              refine z_icmp_lt (tgt := 81) (pc' := 78) X dX6_pivots_75 (by decide) rfl (by omega) (fun h75 => ?_) (fun h75 => ?_)
              · obtain ⟨Xg, Yg, hT, d, n_, hdn, hn5, hd, hlv, hL⟩ := hf51.resolve_left (fun z => h60 z.2)
                clear hf51
                have hTr := TG_rng (by omega) (by omega) hT
                refine z_iconst (pc' := 82) X dX6_pivots_81 rfl ?_
                refine z_iconst (pc' := 83) X dX6_pivots_82 rfl ?_
                refine z_callPI (pc' := 86) (S := Unit) (As := [.int (jI 0), .int (jI 0)]) (rest := []) X dX6_pivots_83 rfl (kX6_indexOf l D E 0 0  ) (va_cwS 2 X.1.2.2.2.2 gX6_pivots_X6_indexOf rfl rfl rfl (by decide +kernel) ⟨Nat.le_of_ble_eq_true rfl, Nat.le_of_ble_eq_true rfl⟩) rfl rfl (Nat.le_of_ble_eq_true rfl) (fun r83 u83 hp83 => ?_)
                replace hp83 := hp83.symm; subst hp83
                refine z_istore (pc' := 88) (lv' := [(6, .int (jI (21 * (0 + 30) + 0 + 10))), (5, .int (jI r51)), (0, .ref (q 0)), (1, .int (jI p_)), (2, .int (jI q_)), (3, .int (jI set)), (4, .int (jI k))]) X dX6_pivots_86 rfl (by decide) rfl ?_
                refine z_iconst (pc' := 89) X dX6_pivots_88 rfl ?_
                refine z_istore (pc' := 91) (lv' := [(7, .int (jI 0)), (6, .int (jI (21 * (0 + 30) + 0 + 10))), (5, .int (jI r51)), (0, .ref (q 0)), (1, .int (jI p_)), (2, .int (jI q_)), (3, .int (jI set)), (4, .int (jI k))]) X dX6_pivots_89 rfl (by decide) rfl ?_
                have lp91 : ∀ (nF : Nat) (x : Int) (at_ : Int) (u2 : St) (xx yy : Int), ((0 ≤ x ∧ x ≤ k + 1) ∧ (∀ F, F ≠ 18 → u2 F = u51 F) ∧ (at_ = sIx xx yy ∧ (-30 ≤ xx ∧ xx ≤ 30) ∧ (-10 ≤ yy ∧ yy ≤ 10)) ∧ (x ≤ k → lv p_ set Xg Yg (d - x.toNat) xx yy ∧ ∀ r, RWk p_ set Xg Yg (k - x).toNat (d - x.toNat) xx yy r → RWk p_ set Xg Yg k.toNat d 0 0 r) ∧ (x = k + 1 → RWk p_ set Xg Yg k.toNat d 0 0 (u2 18 0))) → ((k + 1 - x).toNat : Nat) < nF → J p l e (headSpec wsX6_pivots ({ frames := 4, cells := 0, slots := 0, locals := 108 } : Room)).room s m args below meth c D A 8 (MQ below (va_Qi (fun r u => ∃ x, r = jI x ∧ (fun (rv : Int) (uu : St) => (fPivots p_ q_ set k rv ∧ (∀ F, F ≠ 17 → F ≠ 18 → uu F = σ F))) x u) (Bw D (MW E q) A) A) args s 0 0 A) 91 [(7, .int (jI x)), (6, .int (jI at_)), (5, .int (jI r51)), (0, .ref (q 0)), (1, .int (jI p_)), (2, .int (jI q_)), (3, .int (jI set)), (4, .int (jI k))] [] (MW E q u2) := by
                  intro nF
                  induction nF with
                  | zero => intro x at_ u2 xx yy hI hn; exact absurd hn (Nat.not_lt_zero _)
                  | succ nF ih91 =>
                    intro x at_ u2 xx yy hI hn
                    obtain ⟨g1, g2, g3, g4, g5⟩ := hI
                    have hat : 0 ≤ at_ ∧ at_ < 1281 := by rw [g3.1]; unfold sIx; omega
                    refine z_iload (pc' := 93) X dX6_pivots_91 rfl 0 rfl ?_
                    refine z_iload (pc' := 95) X dX6_pivots_93 rfl 7 rfl ?_
                    refine z_icmp_gt (tgt := 114) (pc' := 98) X dX6_pivots_95 (by decide) rfl (by omega) (fun h95 => ?_) (fun h95 => ?_)
                    · refine z_aload_n (pc' := 115) X dX6_pivots_114 rfl 3 rfl rfl ?_
                      refine z_get (pc' := 118) (C := RX6) (ref := "PivotBeatsModel") (T := TX6) (N := 19) (v := .int (jI (u2 18 0))) X dX6_pivots_115 rfl hin6 0 rfl rfl 18 (by decide) (by decide +kernel) rfl rfl ?_
                      exact z_iret (post := (fun (rv : Int) (uu : St) => (fPivots p_ q_ set k rv ∧ (∀ F, F ≠ 17 → F ≠ 18 → uu F = σ F)))) X dX6_pivots_118 hret u2 (⟨Or.inr (Or.inr ⟨by omega, Xg, Yg, hT, d, by omega, hlv, Or.inr (Or.inr ⟨by omega, g5 (by omega)⟩)⟩), fun F a b => by rw [g2 F b, hn51 F a]⟩)
                    · refine z_aload_n (pc' := 99) X dX6_pivots_98 rfl 3 rfl rfl ?_
                      refine z_iload (pc' := 101) X dX6_pivots_99 rfl 1 rfl ?_
                      refine z_iload_n (pc' := 102) X dX6_pivots_101 rfl 4 rfl rfl ?_
                      refine z_iload_n (pc' := 103) X dX6_pivots_102 rfl 6 rfl rfl ?_
                      refine z_callVI (pc' := 106) (S := St) (As := [.int (jI at_), .int (jI p_), .int (jI set)]) (rest := []) X dX6_pivots_103 rfl (kX6_goesBy l D E q u2 at_ p_ set  (by omega) (fun i i0 i1 => by rw [g2 17 (by decide)]; exact LVS_rng hL (by omega) i0 i1)) (cwV 3 X.1.2.2.2.2 gX6_pivots_X6_goesBy rfl rfl rfl (by decide +kernel) ⟨Nat.le_of_ble_eq_true rfl, Nat.le_of_ble_eq_true rfl⟩) 0 rfl rfl rfl rfl (Nat.le_of_ble_eq_true rfl) (fun r103 u103 hp103 => ?_)
                      obtain ⟨hn103, hg103⟩ := hp103
                      obtain ⟨cg, hc1, hc2, hc3, hc4, hc5⟩ := pv_ex (k := k) (x := x) (by clear hg103; omega) hTr.2.2 g3 hL hdn (by clear hg103; omega) g2 (g4 (by clear hg103; omega)).1 hg103
                      clear hg103
                      refine z_istore (pc' := 108) (lv' := [(6, .int (jI r103)), (7, .int (jI x)), (5, .int (jI r51)), (0, .ref (q 0)), (1, .int (jI p_)), (2, .int (jI q_)), (3, .int (jI set)), (4, .int (jI k))]) X dX6_pivots_106 rfl (by decide) rfl ?_
                      refine z_iinc (pc' := 111) (lv' := [(7, .int (jI (x + 1))), (6, .int (jI r103)), (5, .int (jI r51)), (0, .ref (q 0)), (1, .int (jI p_)), (2, .int (jI q_)), (3, .int (jI set)), (4, .int (jI k))]) X dX6_pivots_108 rfl 1 rfl (by decide) rfl ?_
                      refine z_goto (tgt := 91) X dX6_pivots_111 (by decide) ?_
                      exact ih91 (x + 1) r103 u103 (xx + dX cg) (yy + dY cg) (by exact pv_step (k := k) (x := x) (by omega) (by omega) hTr.2.2 g3 hL hdn (by omega) g2 (g4 (by omega)) hn103 hc1 hc2 hc3 hc4 hc5) (by omega)
                exact lp91 _ 0 (21 * (0 + 30) + 0 + 10) u51 0 0 (⟨by omega, fun _ _ => rfl, ⟨rfl, by omega, by omega⟩, fun _ => ⟨hlv, fun r h => by rw [show (k - 0).toNat = k.toNat by omega] at h; exact h⟩, fun h => by omega⟩) (Nat.lt_succ_self _)
              · refine z_bipush (pc' := 80) X dX6_pivots_78 rfl rfl ?_
                exact z_iret (post := (fun (rv : Int) (uu : St) => (fPivots p_ q_ set k rv ∧ (∀ F, F ≠ 17 → F ≠ 18 → uu F = σ F)))) X dX6_pivots_80 hret u51 (⟨pv_over (by omega) (by omega) h60 h75 hf51, fun F a _ => hn51 F a⟩)
            · refine z_iload (pc' := 70) X dX6_pivots_68 rfl 0 rfl ?_
              exact z_iret (post := (fun (rv : Int) (uu : St) => (fPivots p_ q_ set k rv ∧ (∀ F, F ≠ 17 → F ≠ 18 → uu F = σ F)))) X dX6_pivots_70 hret u51 (by first | exact ⟨pv_none (by omega) h60 hf51, fun F a _ => hn51 F a⟩ | exact ⟨pv_m1 (by omega) (by omega) h60 hf51, fun F a _ => hn51 F a⟩)
        · refine z_if_ne (tgt := 47) (pc' := 44) X dX6_pivots_41 (by decide) rfl (by omega) (fun h => absurd h (by decide)) (fun _ => ?_)
          refine z_bipush (pc' := 46) X dX6_pivots_44 rfl rfl ?_
          exact z_iret (post := (fun (rv : Int) (uu : St) => (fPivots p_ q_ set k rv ∧ (∀ F, F ≠ 17 → F ≠ 18 → uu F = σ F)))) X dX6_pivots_46 hret σ (⟨Or.inl ⟨by omega, rfl⟩, fun _ _ _ => rfl⟩)
      · refine z_if_eq (tgt := 44) (pc' := 34) X dX6_pivots_31 (by decide) rfl (by omega) (fun _ => ?_) (fun h => absurd h (by decide))
        refine z_bipush (pc' := 46) X dX6_pivots_44 rfl rfl ?_
        exact z_iret (post := (fun (rv : Int) (uu : St) => (fPivots p_ q_ set k rv ∧ (∀ F, F ≠ 17 → F ≠ 18 → uu F = σ F)))) X dX6_pivots_46 hret σ (⟨Or.inl ⟨by omega, rfl⟩, fun _ _ _ => rfl⟩)
    · refine z_if_eq (tgt := 44) (pc' := 24) X dX6_pivots_21 (by decide) rfl (by omega) (fun _ => ?_) (fun h => absurd h (by decide))
      refine z_bipush (pc' := 46) X dX6_pivots_44 rfl rfl ?_
      exact z_iret (post := (fun (rv : Int) (uu : St) => (fPivots p_ q_ set k rv ∧ (∀ F, F ≠ 17 → F ≠ 18 → uu F = σ F)))) X dX6_pivots_46 hret σ (⟨Or.inl ⟨by omega, rfl⟩, fun _ _ _ => rfl⟩)
  · refine z_if_eq (tgt := 44) (pc' := 12) X dX6_pivots_9 (by decide) rfl (by omega) (fun _ => ?_) (fun h => absurd h (by decide))
    refine z_bipush (pc' := 46) X dX6_pivots_44 rfl rfl ?_
    exact z_iret (post := (fun (rv : Int) (uu : St) => (fPivots p_ q_ set k rv ∧ (∀ F, F ≠ 17 → F ≠ 18 → uu F = σ F)))) X dX6_pivots_46 hret σ (⟨Or.inl ⟨by omega, rfl⟩, fun _ _ _ => rfl⟩)
