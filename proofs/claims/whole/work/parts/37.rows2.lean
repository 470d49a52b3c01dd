/-! ===== the rows of harmBy ===== -/
theorem arr_ext {cI : ClassId} {N : Nat} {f g : Nat → Int32} (h : ∀ j, j < N → f j = g j) : vp_cell cI (N, .inl f) = vp_cell cI (N, .inl g) := by
  have e : (fun j : Fin N => Value.int (f j.val)) = (fun j : Fin N => Value.int (g j.val)) := funext fun j => by rw [h j.val j.isLt]
  show arrV cI N (fun j => .int (f j)) = arrV cI N (fun j => .int (g j))
  unfold arrV
  rw [e]
theorem hx_row {E q : Nat → Nat} {σ : St} {s : Int} (hs : 0 ≤ s ∧ s < 7) : (CW E q σ)[31 + s.toNat]? = some (q (50 + s.toNat), .inl (E 0, 16, .inl (fun j : Nat => jI (σ 22 (16 * s + j))))) := by
  rcases (show s = 0 ∨ s = 1 ∨ s = 2 ∨ s = 3 ∨ s = 4 ∨ s = 5 ∨ s = 6 by omega) with h | h | h | h | h | h | h <;> subst h <;> rfl
theorem CW_low {E q : Nat → Nat} {σ : St} {e v : Int} {k : Nat} (hk : k < 31) : (CW E q (up σ 22 e v))[k]? = (CW E q σ)[k]? := by
  have h : (CW E q (up σ 22 e v)).take 31 = (CW E q σ).take 31 := rfl
  have h1 := congrArg (fun l : va_W => l[k]?) h
  simp only [List.getElem?_take, if_pos hk] at h1
  exact h1
theorem CW_len {E q : Nat → Nat} {σ : St} : (CW E q σ).length = 38 := rfl
theorem CW_hst {D : va_G} {E q : Nat → Nat} {σ : St} {s i v : Int} {H : Heap} (hs : 0 ≤ s ∧ s < 7) (hi : 0 ≤ i ∧ i < 16) (h : va_P D vwCl ((CW E q σ).set (31 + s.toNat) (q (50 + s.toNat), .inl (E 0, 16, .inl (fun j : Nat => jI (if (j : Int) = i then v else σ 22 (16 * s + j)))))) H) : va_P D vwCl (CW E q (up σ 22 (16 * s + i) v)) H := by
  intro k p hk
  rcases (show k < 31 ∨ (31 ≤ k ∧ k < 38) ∨ 38 ≤ k by omega) with z | z | z
  · rw [CW_low z] at hk
    exact h k p (by rw [List.getElem?_set_ne (by omega)]; exact hk)
  · obtain ⟨r, hr, rfl⟩ : ∃ r : Int, (0 ≤ r ∧ r < 7) ∧ k = 31 + r.toNat := ⟨((k - 31 : Nat) : Int), by omega, by omega⟩
    rw [hx_row hr] at hk
    cases hk
    by_cases e : r = s
    · subst e
      have := h (31 + r.toNat) _ (List.getElem?_set_self (by rw [CW_len]; omega))
      have g : H[q (50 + r.toNat)]? = some (vp_cell (E 0) (16, .inl (fun j : Nat => jI (if (j : Int) = i then v else σ 22 (16 * r + j))))) := this
      show H[q (50 + r.toNat)]? = some (vp_cell (E 0) (16, .inl (fun j : Nat => jI (up σ 22 (16 * r + i) v 22 (16 * r + j)))))
      rw [g]
      congr 1
      refine arr_ext (fun j hj => ?_)
      rw [up_i]
      by_cases e2 : (j : Int) = i
      · rw [if_pos e2, if_pos (by omega)]
      · rw [if_neg e2, if_neg (by omega)]
    · have := h (31 + r.toNat) _ (by rw [List.getElem?_set_ne (by omega)]; exact hx_row hr)
      have g : H[q (50 + r.toNat)]? = some (vp_cell (E 0) (16, .inl (fun j : Nat => jI (σ 22 (16 * r + j))))) := this
      show H[q (50 + r.toNat)]? = some (vp_cell (E 0) (16, .inl (fun j : Nat => jI (up σ 22 (16 * s + i) v 22 (16 * r + j)))))
      rw [g]
      congr 1
      refine arr_ext (fun j hj => ?_)
      rw [up_i, if_neg (by omega)]
  · rw [List.getElem?_eq_none (by rw [CW_len]; omega)] at hk
    cases hk
theorem va_D_addr {A : Nat → Prop} {w w' : va_W} (h : w.map Prod.fst = w'.map Prod.fst) (hD : va_D A w) : va_D A w' := by
  have key : ∀ (k : Nat) (p : Nat × va_E), w'[k]? = some p → ∃ p', w[k]? = some p' ∧ p'.1 = p.1 := by
    intro k p hk
    have e := congrArg (fun l : List Nat => l[k]?) h
    simp only [List.getElem?_map, hk, Option.map_some] at e
    cases hw : w[k]? with
    | none => rw [hw] at e; cases e
    | some p' => rw [hw] at e; exact ⟨p', rfl, Option.some.inj e⟩
  refine ⟨fun i j p r hp hr e => ?_, fun k p hk => ?_⟩
  · obtain ⟨p', a1, a2⟩ := key i p hp
    obtain ⟨r', b1, b2⟩ := key j r hr
    exact hD.1 i j p' r' a1 b1 (by rw [a2, b2]; exact e)
  · obtain ⟨p', a1, a2⟩ := key k p hk
    rw [← a2]
    exact hD.2 k p' a1
section ZH
variable {p : Program} {l : Launch} {e : Env} {R : Room} {s : State} {m : MethodId} {args : Array Value} {below : List Frame} {meth : Method} {c : Code} {D : va_G} {E : Nat → Nat} {A : Nat → Prop} {nL : Nat} {Q : State → Prop} {cc : ByteArray} {Ts : List Cond} {own : String} {pc pc' : Nat} {lv : List (Nat × Value)} {st : List Value} {q : Nat → Nat} {σ : St}
theorem z_hld {sx i : Int} (X : Cx p s m args meth c cc nL Ts own D E A) (d : decode cc pc = .ok (.iaload, 1)) (hq : pc + 1 = pc') (hs : 0 ≤ sx ∧ sx < 7) (hi : 0 ≤ i ∧ i < 16) (k : J p l e R s m args below meth c D A nL Q pc' lv (.int (jI (σ 22 (16 * sx + i))) :: st) (CW E q σ)) : J p l e R s m args below meth c D A nL Q pc lv (.int (jI i) :: .ref (q (50 + sx.toNat)) :: st) (CW E q σ) :=
  z_iald (f := fun j => σ 22 (16 * sx + j)) (n := 16) X d hq (31 + sx.toNat) (hx_row hs) (by decide) hi k
theorem z_hst {sx i x : Int} (X : Cx p s m args meth c cc nL Ts own D E A) (d : decode cc pc = .ok (.iastore, 1)) (hq : pc + 1 = pc') (hs : 0 ≤ sx ∧ sx < 7) (hi : 0 ≤ i ∧ i < 16) (k : J p l e R s m args below meth c D A nL Q pc' lv (st) (CW E q (up σ 22 (16 * sx + i) x))) : J p l e R s m args below meth c D A nL Q pc lv (.int (jI x) :: .int (jI i) :: .ref (q (50 + sx.toNat)) :: st) (CW E q σ) := by
  refine z_iast (f := fun j => σ 22 (16 * sx + j)) (n := 16) X d hq (31 + sx.toNat) (hx_row hs) (by decide) hi rfl ?_
  intro H locs ls hP hD hS hl
  refine k H locs ls (CW_hst hs hi hP) ?_ hS hl
  refine va_D_addr ?_ hD
  rw [List.map_set]
  have e1 : (CW E q (up σ 22 (16 * sx + i) x)).map Prod.fst = (CW E q σ).map Prod.fst := rfl
  rw [e1]
  apply List.ext_getElem?
  intro k
  by_cases hk : 31 + sx.toNat = k
  · subst hk
    rw [List.getElem?_set_self (by rw [List.length_map, CW_len]; omega), List.getElem?_map, hx_row hs]
    rfl
  · rw [List.getElem?_set_ne hk]
end ZH
