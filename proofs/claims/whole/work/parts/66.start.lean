/-! ===== the start ===== -/
theorem inlX0 : ∀ w ∈ wsX00, w ∈ wsL_law := fun _ h => List.mem_append_left _ (List.mem_append_left _ (List.mem_append_right _ h))
theorem inlX1 : ∀ w ∈ wsX10, w ∈ wsL_law := fun _ h => List.mem_append_left _ (List.mem_append_left _ (List.mem_append_left _ (List.mem_append_left _ (List.mem_append_right _ h))))
theorem inlX2 : ∀ w ∈ wsX20, w ∈ wsL_law := fun _ h => List.mem_append_left _ (List.mem_append_left _ (List.mem_append_left _ (List.mem_append_right _ h)))
theorem inlX3 : ∀ w ∈ wsX30, w ∈ wsL_law := fun _ h => List.mem_append_left _ (List.mem_append_left _ (List.mem_append_left _ (List.mem_append_left _ (List.mem_append_left _ (List.mem_append_right _ h)))))
theorem inlX4 : ∀ w ∈ wsX40, w ∈ wsL_law := fun _ h => List.mem_append_left _ (List.mem_append_right _ h)
theorem inlX5 : ∀ w ∈ wsX50, w ∈ wsL_law := fun _ h => List.mem_append_left _ (List.mem_append_left _ (List.mem_append_left _ (List.mem_append_left _ (List.mem_append_left _ (List.mem_append_left _ (List.mem_append_left _ (List.mem_append_right _ h)))))))
theorem inlX6 : ∀ w ∈ wsX60, w ∈ wsL_law := fun _ h => List.mem_append_left _ (List.mem_append_left _ (List.mem_append_left _ (List.mem_append_left _ (List.mem_append_left _ (List.mem_append_left _ (List.mem_append_right _ h))))))
theorem bth0 : Bth sM0 sC0 := by
  have n1 : sC0 1 0 = 0 := rfl
  have n4 : sC0 4 0 = 0 := rfl
  have n16 : sC0 16 0 = 8 := rfl
  refine ⟨⟨⟨by omega, fun s p q => by omega, fun s p q => by omega, by decide, by omega, fun k p q => by omega, by omega, fun i p q => ?_, fun i p q => ?_⟩, ⟨fun h => by omega, fun k p q => by omega⟩, BI_0 rfl, Or.inl rfl⟩, rfl, rfl, fun s p q => by omega, rfl, rfl, ⟨rfl, rfl, rfl, rfl, rfl⟩, rfl, ?_⟩
  · rcases (show i = 0 ∨ i = 1 ∨ i = 2 ∨ i = 3 ∨ i = 4 ∨ i = 5 ∨ i = 6 ∨ i = 7 by omega) with z | z | z | z | z | z | z | z <;> subst z <;> decide
  · rcases (show i = 0 ∨ i = 1 ∨ i = 2 ∨ i = 3 ∨ i = 4 ∨ i = 5 ∨ i = 6 by omega) with z | z | z | z | z | z | z <;> subst z <;> decide
  · funext i
    by_cases h : 0 ≤ i ∧ i ≤ 15
    · rcases (show i = 0 ∨ i = 1 ∨ i = 2 ∨ i = 3 ∨ i = 4 ∨ i = 5 ∨ i = 6 ∨ i = 7 ∨ i = 8 ∨ i = 9 ∨ i = 10 ∨ i = 11 ∨ i = 12 ∨ i = 13 ∨ i = 14 ∨ i = 15 by omega) with z | z | z | z | z | z | z | z | z | z | z | z | z | z | z | z <;> subst z <;> rfl
    · show (if i = 15 then (0 : Int) else if i = 14 then (0 : Int) else if i = 13 then (0 : Int) else if i = 12 then (0 : Int) else if i = 11 then (0 : Int) else if i = 10 then (0 : Int) else if i = 9 then (0 : Int) else if i = 8 then (0 : Int) else if i = 7 then (208 : Int) else if i = 6 then (176 : Int) else if i = 5 then (144 : Int) else if i = 4 then (120 : Int) else if i = 3 then (100 : Int) else if i = 2 then (80 : Int) else if i = 1 then (60 : Int) else if i = 0 then (40 : Int) else 0) = (if i = 7 then (208 : Int) else if i = 6 then (176 : Int) else if i = 5 then (144 : Int) else if i = 4 then (120 : Int) else if i = 3 then (100 : Int) else if i = 2 then (80 : Int) else if i = 1 then (60 : Int) else if i = 0 then (40 : Int) else 0)
      rw [if_neg (show ¬ i = 15 by omega), if_neg (show ¬ i = 14 by omega), if_neg (show ¬ i = 13 by omega), if_neg (show ¬ i = 12 by omega), if_neg (show ¬ i = 11 by omega), if_neg (show ¬ i = 10 by omega), if_neg (show ¬ i = 9 by omega), if_neg (show ¬ i = 8 by omega), if_neg (show ¬ i = 7 by omega), if_neg (show ¬ i = 6 by omega), if_neg (show ¬ i = 5 by omega), if_neg (show ¬ i = 4 by omega), if_neg (show ¬ i = 3 by omega), if_neg (show ¬ i = 2 by omega), if_neg (show ¬ i = 1 by omega), if_neg (show ¬ i = 0 by omega)]
set_option maxHeartbeats 4000000 in
set_option maxRecDepth 100000 in
theorem whole_start {p : Program} {e : Env} {s : State} {m : MethodId} {below : List Frame} {meth : Method} {c : Code} (l : Launch) (hflags : l.flags = flags0) {b L : Nat} {xs : Nat → Int32} (hL : L ≤ 3072) (C0 : lw_At p s m meth c b L xs) : W p l e room_1 s m #[Value.ref b] below meth c s.heap [] 0 0 (lw_Z below #[Value.ref b] s) (entryFrame m ([Value.ref b] : List Value).toArray 4) := by
  obtain ⟨hx, hb, hr, hml, hown, hts, hX, hbl, hlocks, hgv⟩ := C0
  have hbA : ¬ (fun q : Nat => s.heap.size ≤ q) b := Nat.not_le.mpr hbl
  have hA : ∀ a : Nat, a < s.heap.size → ¬ (fun q : Nat => s.heap.size ≤ q) a := fun a h => Nat.not_le.mpr h
  have htw : ∀ w ∈ wsL_law, w.before #[Value.ref b] s = true := fun w h => hts w (wsL_law_in w h)
  obtain ⟨c0, i0, k0⟩ := u_known (C := RX0) (T := TX0) (N := 9) (n := 9) htw inlX0 (htw (.instantiable RX0 9) (by decide +kernel))
  obtain ⟨c1, i1, k1⟩ := u_known (C := RX1) (T := TX1) (N := 5) (n := 5) htw inlX1 (htw (.instantiable RX1 5) (by decide +kernel))
  obtain ⟨c2, i2, k2⟩ := u_known (C := RX2) (T := TX2) (N := 2) (n := 2) htw inlX2 (htw (.instantiable RX2 2) (by decide +kernel))
  obtain ⟨c3, i3, k3⟩ := u_known (C := RX3) (T := TX3) (N := 9) (n := 9) htw inlX3 (htw (.instantiable RX3 9) (by decide +kernel))
  obtain ⟨c4, i4, k4⟩ := u_known (C := RX4) (T := TX4) (N := 10) (n := 10) htw inlX4 (htw (.instantiable RX4 10) (by decide +kernel))
  obtain ⟨c5, i5, k5⟩ := u_known (C := RX5) (T := TX5) (N := 6) (n := 6) htw inlX5 (htw (.instantiable RX5 6) (by decide +kernel))
  obtain ⟨c6, i6, k6⟩ := u_known (C := RX6) (T := TX6) (N := 19) (n := 19) htw inlX6 (htw (.instantiable RX6 19) (by decide +kernel))
  obtain ⟨D, hKc⟩ : ∃ D : va_G, ∀ (k : Nat) (q : vw_C), vwCl[k]? = some q → u_Kn s q.1 q.2.1 q.2.2 (D.1 k) (D.2 k) := by
    refine ⟨(fun k => match k with | 0 => c0 | 1 => c1 | 2 => c2 | 3 => c3 | 4 => c4 | 5 => c5 | _ => c6, fun k => match k with | 0 => i0 | 1 => i1 | 2 => i2 | 3 => i3 | 4 => i4 | 5 => i5 | _ => i6), ?_⟩
    intro k q hq
    match k, hq with
    | 0, hq => cases hq; exact k0
    | 1, hq => cases hq; exact k1
    | 2, hq => cases hq; exact k2
    | 3, hq => cases hq; exact k3
    | 4, hq => cases hq; exact k4
    | 5, hq => cases hq; exact k5
    | 6, hq => cases hq; exact k6
    | k + 7, hq => simp [vwCl] at hq
  obtain ⟨cI, kI, mI, fI, gI, eI⟩ := Cond.arrayClass_spec (htw (.arrayClass .int) (by decide +kernel))
  obtain ⟨cJ, kJ, mJ, fJ, gJ, eJ⟩ := Cond.arrayClass_spec (htw (.arrayClass .long) (by decide +kernel))
  obtain ⟨cZ, kZ, mZ, fZ, gZ, eZ⟩ := Cond.arrayClass_spec (htw (.arrayClass .boolean) (by decide +kernel))
  have hov : (Cond.arrayOver (.array .int)).before #[Value.ref b] s = true := (hts _ (List.mem_append_right _ (List.mem_of_getElem? (i := 118) (by decide +kernel))))
  obtain ⟨mA_, cA, kA, fA, -, gA, eA, rA⟩ := arrayOverA_spec hov
  have hs := flat_of_before _ hgv
  have q10 : ∀ j : Nat, j < 20 → (Cond.eq (.elem (.static "PivotBeats" "TICKS" "[I") (.int (Int32.ofNat j))) (.int (jI (tk (j : Int))))) ∈ flatC (Jvm.Cond.and given_1 narrow_1) := by decide +kernel
  obtain ⟨t10, h10, T10⟩ := va_Tof (args := #[Value.ref b]) (s := s) (tm := .static "PivotBeats" "TICKS" "[I") (ty := .int) (N := 20) (f := fun i => .int (jI (tk i))) (A := fun q => s.heap.size ≤ q) (by decide) (hs _ (by decide +kernel)) (va_eqt (hs _ (by decide +kernel))) (fun j hj => va_eqt (hs _ (q10 j hj))) hA
  have q11 : ∀ j : Nat, j < 20 → (Cond.eq (.elem (.static "PivotBeats" "TWOS" "[I") (.int (Int32.ofNat j))) (.int (jI (tw (j : Int))))) ∈ flatC (Jvm.Cond.and given_1 narrow_1) := by decide +kernel
  obtain ⟨t11, h11, T11⟩ := va_Tof (args := #[Value.ref b]) (s := s) (tm := .static "PivotBeats" "TWOS" "[I") (ty := .int) (N := 20) (f := fun i => .int (jI (tw i))) (A := fun q => s.heap.size ≤ q) (by decide) (hs _ (by decide +kernel)) (va_eqt (hs _ (by decide +kernel))) (fun j hj => va_eqt (hs _ (q11 j hj))) hA
  have q12 : ∀ j : Nat, j < 20 → (Cond.eq (.elem (.static "PivotBeats" "THREES" "[I") (.int (Int32.ofNat j))) (.int (jI (th (j : Int))))) ∈ flatC (Jvm.Cond.and given_1 narrow_1) := by decide +kernel
  obtain ⟨t12, h12, T12⟩ := va_Tof (args := #[Value.ref b]) (s := s) (tm := .static "PivotBeats" "THREES" "[I") (ty := .int) (N := 20) (f := fun i => .int (jI (th i))) (A := fun q => s.heap.size ≤ q) (by decide) (hs _ (by decide +kernel)) (va_eqt (hs _ (by decide +kernel))) (fun j hj => va_eqt (hs _ (q12 j hj))) hA
  have z10 : va_Z "PivotBeats" "TICKS" "[I" (.ref t10) (fun q => s.heap.size ≤ q) s s.heap := va_Zref (hts _ (List.mem_append_right _ (List.mem_of_getElem? (i := 316) (by decide +kernel)))) (hts _ (List.mem_append_right _ (List.mem_of_getElem? (i := 1) (by decide +kernel)))) h10 hA
  have z11 : va_Z "PivotBeats" "TWOS" "[I" (.ref t11) (fun q => s.heap.size ≤ q) s s.heap := va_Zref (hts _ (List.mem_append_right _ (List.mem_of_getElem? (i := 243) (by decide +kernel)))) (hts _ (List.mem_append_right _ (List.mem_of_getElem? (i := 1) (by decide +kernel)))) h11 hA
  have z12 : va_Z "PivotBeats" "THREES" "[I" (.ref t12) (fun q => s.heap.size ≤ q) s s.heap := va_Zref (hts _ (List.mem_append_right _ (List.mem_of_getElem? (i := 249) (by decide +kernel)))) (hts _ (List.mem_append_right _ (List.mem_of_getElem? (i := 1) (by decide +kernel)))) h12 hA
  obtain ⟨E, e0, e1, e2, e3, e10, e11, e12⟩ : ∃ E : Nat → Nat, E 0 = cI ∧ E 1 = cJ ∧ E 2 = cZ ∧ E 3 = cA ∧ E 10 = t10 ∧ E 11 = t11 ∧ E 12 = t12 := ⟨fun k => match k with | 0 => cI | 1 => cJ | 2 => cZ | 3 => cA | 10 => t10 | 11 => t11 | 12 => t12 | _ => 0, rfl, rfl, rfl, rfl, rfl, rfl, rfl⟩
  subst e0
  subst e1
  subst e2
  subst e3
  subst e10
  subst e11
  subst e12
  have hK : va_K D vwCl (tysE E) s := by
    refine ⟨hKc, fun k q h => ?_⟩
    match k, h with
    | 0, h => cases h; exact ⟨fun n z => ⟨(fun q hq => by cases hq), kI, gI, mI, eI⟩, fI⟩
    | 1, h => cases h; exact ⟨fun n z => ⟨(fun q hq => by cases hq), kJ, gJ, mJ, eJ⟩, fJ⟩
    | 2, h => cases h; exact ⟨fun n z => ⟨(fun q hq => by cases hq), kZ, gZ, mZ, eZ⟩, fZ⟩
    | 3, h => cases h; exact ⟨fun n z => ⟨(fun q hq => by cases hq), kA, gA, mA_, eA⟩, rA⟩
    | k + 4, h => simp at h
  have nw : NW s := by
    refine ⟨?_, ?_⟩
    · exact List.forall_mem_cons.mpr ⟨va_Nw.of rfl (hts _ (List.mem_append_right _ (List.mem_of_getElem? (i := 242) (by decide +kernel)))), List.forall_mem_cons.mpr ⟨va_Nw.of rfl (hts _ (List.mem_append_right _ (List.mem_of_getElem? (i := 248) (by decide +kernel)))), List.forall_mem_cons.mpr ⟨va_Nw.of rfl (hts _ (List.mem_append_right _ (List.mem_of_getElem? (i := 472) (by decide +kernel)))), List.forall_mem_cons.mpr ⟨va_Nw.of rfl (hts _ (List.mem_append_right _ (List.mem_of_getElem? (i := 552) (by decide +kernel)))), List.forall_mem_cons.mpr ⟨va_Nw.of rfl (hts _ (List.mem_append_right _ (List.mem_of_getElem? (i := 553) (by decide +kernel)))), fun _ h => absurd h List.not_mem_nil⟩⟩⟩⟩⟩
    · exact List.forall_mem_cons.mpr ⟨va_Nw.of rfl (hts _ (List.mem_append_right _ (List.mem_of_getElem? (i := 532) (by decide +kernel)))), List.forall_mem_cons.mpr ⟨va_Nw.of rfl (hts _ (List.mem_append_right _ (List.mem_of_getElem? (i := 554) (by decide +kernel)))), List.forall_mem_cons.mpr ⟨va_Nw.of rfl (hts _ (List.mem_append_right _ (List.mem_of_getElem? (i := 538) (by decide +kernel)))), fun _ h => absurd h List.not_mem_nil⟩⟩⟩
  have hao : AOA s := ⟨⟨mA_, _, kA, fA, rA, gA, eA⟩, List.forall_mem_cons.mpr ⟨va_Nw.of rfl (hts _ (List.mem_append_right _ (List.mem_of_getElem? (i := 19) (by decide +kernel)))), List.forall_mem_cons.mpr ⟨va_Nw.of rfl (hts _ (List.mem_append_right _ (List.mem_of_getElem? (i := 71) (by decide +kernel)))), List.forall_mem_cons.mpr ⟨va_Nw.of rfl (hts _ (List.mem_append_right _ (List.mem_of_getElem? (i := 113) (by decide +kernel)))), List.forall_mem_cons.mpr ⟨va_Nw.of rfl (hts _ (List.mem_append_right _ (List.mem_of_getElem? (i := 151) (by decide +kernel)))), fun _ h => absurd h List.not_mem_nil⟩⟩⟩⟩⟩
  have X : Cx p s m #[Value.ref b] meth c cL_law 4 wsL_law RL D E (fun q => s.heap.size ≤ q) := ⟨⟨hx, hb, hml, hown, htw⟩, hK, fun q h => h, ⟨⟨z10, z11, z12⟩, ⟨T10, T11, T12⟩, nw⟩, hlocks⟩
  have J0 : JG p l e room_1 s m #[Value.ref b] below meth c D (fun q => s.heap.size ≤ q) 4 (lw_Z below #[Value.ref b] s) 0 0 0 [(0, .ref b)] [] [] := by
    refine n_new (pc' := 3) (C := RX5) (T := TX5) (N := 6) (ci := 5) (fs := [.null, .null, .null, .null, .null, .int (jI 0)]) X dL_law_0 rfl inlX5 tyX5 tyX5_ok (by decide +kernel) (by decide +kernel) (by decide +kernel) rfl (by decide) ⟨Nat.le_of_ble_eq_true rfl, Nat.le_of_ble_eq_true rfl⟩ (fun b5 => ?_)
    refine n_dup (pc' := 4) X dL_law_3 rfl rfl ?_
    refine n_callN (pc' := 7) (S := Nat → Nat) (rest := [.ref b5]) X hao dL_law_4 rfl (kX5_init l D E b5) (cwI 0 X.1.2.2.2.2 gL_law_X5_init rfl rfl rfl (htw _ (by decide +kernel)) (htw _ (by decide +kernel)) (htw _ (by decide +kernel)) rfl (by decide +kernel) ⟨Nat.le_of_ble_eq_true rfl, Nat.le_of_ble_eq_true rfl⟩) (Nat.le_of_ble_eq_true rfl) ⟨Nat.le_of_ble_eq_true rfl, Nat.le_of_ble_eq_true rfl⟩ (fun q hq => ?_)
    refine n_astore_n (pc' := 8) (lv' := [(1, .ref b5), (0, .ref b)]) X dL_law_7 rfl rfl (by decide) rfl ?_
    refine n_new (pc' := 11) (C := RX6) (T := TX6) (N := 19) (ci := 6) (fs := [.int (jI 0), .null, .null, .int (jI 0), .int (jI 0), .null, .null, .null, .null, .null, .int (jI 0), .null, .null, .int (jI 0), .null, .null, .null, .null, .int (jI 0)]) X dL_law_8 rfl inlX6 tyX6 tyX6_ok (by decide +kernel) (by decide +kernel) (by decide +kernel) rfl (by decide) ⟨Nat.le_of_ble_eq_true rfl, Nat.le_of_ble_eq_true rfl⟩ (fun b6 => ?_)
    refine n_dup (pc' := 12) X dL_law_11 rfl rfl ?_
    refine n_callN (pc' := 15) (S := Nat → Nat) (rest := [.ref b6]) X hao dL_law_12 rfl (kX6_init l D E b6) (cwI 0 X.1.2.2.2.2 gL_law_X6_init rfl rfl rfl (htw _ (by decide +kernel)) (htw _ (by decide +kernel)) (htw _ (by decide +kernel)) rfl (by decide +kernel) ⟨Nat.le_of_ble_eq_true rfl, Nat.le_of_ble_eq_true rfl⟩) (Nat.le_of_ble_eq_true rfl) ⟨Nat.le_of_ble_eq_true rfl, Nat.le_of_ble_eq_true rfl⟩ (fun r hq2 => ?_)
    refine n_astore_n (pc' := 16) (lv' := [(2, .ref b6), (1, .ref b5), (0, .ref b)]) X dL_law_15 rfl rfl (by decide) rfl ?_
    refine n_iconst (pc' := 17) X dL_law_16 rfl ?_
    refine n_istore_n (pc' := 18) (lv' := [(3, .int (jI 0)), (2, .ref b6), (1, .ref b5), (0, .ref b)]) X dL_law_17 rfl rfl (by decide) rfl ?_
    refine n_widen (K' := 600000) (N' := 7302250) (Nat.le_of_ble_eq_true rfl) (Nat.le_of_ble_eq_true rfl) ?_
    refine n_lv (lv' := [(0, .ref b), (1, .ref b5), (2, .ref b6), (3, .int (jI 0))]) [3, 2, 1, 0] rfl ?_
    subst hq
    subst hq2
    exact law_loop X hX hbl hbA hL hr 513 0 sM0 sC0 (by omega) (by omega) (by omega) bth0
  have hl := lv_entry ([.ref b]) (n := 4) (Nat.le_of_ble_eq_true rfl)
  rw [lg_entry_eq]
  generalize (lg_sl ([.ref b]) ++ List.replicate (4 - (lg_sl ([.ref b])).length) Slot.unset).toArray = ls at hl ⊢
  exact J0 s.heap [] ls (fun k q h => by simp at h) ⟨fun i j p q h => by simp at h, fun k q h => by simp at h⟩ va_S.rf hl
