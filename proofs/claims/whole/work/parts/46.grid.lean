/-! ===== new int[7][16]: the block that it leaves: the outer array, and its rows pushed behind it ===== -/
/-- what an outer array at h holds once n rows lie behind it -/
def ogV (h n : Nat) : Nat → Value := fun j => va_rf (if j < n then some (h + 1 + j) else none)
abbrev ogR (cI : ClassId) : Cell := arrV cI 16 (fun _ => .int 0)
/-- V with n rows behind all its cells, in closed form -/
def ogB (cI : ClassId) (V : State) (n : Nat) : State := { V with heap := V.heap ++ Array.replicate n (ogR cI), slotsUsed := V.slotsUsed + 16 * n }
theorem ogB_none (cI : ClassId) (V : State) : ogB cI V 0 = V := by
  unfold ogB
  simp
theorem ogB_more (cI : ClassId) (V : State) (n : Nat) : (ogB cI V n).pushCell (ogR cI) = ogB cI V (n + 1) := by
  have h1 : (V.heap ++ Array.replicate n (ogR cI)).push (ogR cI) = V.heap ++ Array.replicate (n + 1) (ogR cI) := by
    rw [Array.replicate_succ, Array.push_eq_append, Array.push_eq_append, Array.append_assoc]
  have h2 : V.slotsUsed + 16 * n + (ogR cI).slots.size = V.slotsUsed + 16 * (n + 1) := by
    rw [arrV_size]
    omega
  unfold ogB State.pushCell
  simp only [h1, h2]
/-- a store into the outer array under n rows: as if it had been pushed so -/
theorem ogB_outer (cI : ClassId) (V : State) (n : Nat) {a b : Cell} (h : a.slots.size = b.slots.size) : (ogB cI (V.pushCell a) n).setCell V.heap.size b = ogB cI (V.pushCell b) n := by
  have h1 : (V.heap.push a ++ Array.replicate n (ogR cI)).setIfInBounds V.heap.size b = V.heap.push b ++ Array.replicate n (ogR cI) := by
    refine Array.ext_getElem? (fun i => ?_)
    rw [Array.getElem?_setIfInBounds, Array.getElem?_append, Array.getElem?_append, Array.getElem?_push, Array.getElem?_push, Array.size_push, Array.size_push, Array.size_append, Array.size_push]
    by_cases q : V.heap.size = i
    · subst q
      rw [if_pos rfl, if_pos (by omega), if_pos (by omega), if_pos rfl]
    · rw [if_neg q, if_neg (show ¬ i = V.heap.size by omega), if_neg (show ¬ i = V.heap.size by omega)]
  unfold ogB State.setCell State.pushCell
  simp only [h1, h]
theorem ogB_old (cI : ClassId) (V : State) (n : Nat) {x : Nat} (h : x < V.heap.size) : (ogB cI V n).heap[x]? = V.heap[x]? := Array.getElem?_append_left h
theorem ogB_new (cI : ClassId) (V : State) {n j : Nat} (h : j < n) : (ogB cI V n).heap[V.heap.size + j]? = some (ogR cI) := by
  show (V.heap ++ Array.replicate n (ogR cI))[V.heap.size + j]? = _
  rw [Array.getElem?_append_right (Nat.le_add_right _ _), Nat.add_sub_cancel_left, Array.getElem?_replicate, if_pos h]
theorem ogB_size (cI : ClassId) (V : State) (n : Nat) : (ogB cI V n).heap.size = V.heap.size + n := by
  show (V.heap ++ Array.replicate n (ogR cI)).size = _
  rw [Array.size_append, Array.size_replicate]
theorem ogV_next (h n : Nat) : updV (ogV h n) n (.ref (h + 1 + n)) = ogV h (n + 1) := by
  funext j
  rcases Nat.lt_trichotomy j n with q | q | q
  · simp [updV, ogV, q, Nat.lt_succ_of_lt q, Nat.ne_of_lt q]
  · simp [updV, ogV, va_rf, q]
  · simp [updV, ogV, show ¬ j = n by omega, show ¬ j < n by omega, show ¬ j < n + 1 by omega]
section OG1
variable {e : Env} {E : CtlPost} {d : Bool} {acts : List Action}
/-- a loop that is counted, along a road of states F 0, F 1, .. -/
theorem og_count (F : Nat → State) (f : Nat → PUnit → Sem (ForInStep PUnit)) (N : Nat) {Q : PUnit → Pre} (hq : ∀ d' acts', Q PUnit.unit d' acts' (F N))
    (hs : ∀ i, i < N → ∀ (d' : Bool) (acts' : List Action) (Q' : ForInStep PUnit → Pre), (∀ d'' acts'', Q' (.yield PUnit.unit) d'' acts'' (F (i + 1))) → wp (f i PUnit.unit) Q' E e d' acts' (F i)) :
    ∀ (k i : Nat), i + k = N → ∀ (d' : Bool) (acts' : List Action), wp (forIn (List.range' i k) PUnit.unit f) Q E e d' acts' (F i) := by
  intro k
  induction k with
  | zero =>
    intro i hi d' acts'
    cases hi
    exact hq d' acts'
  | succ k ih =>
    intro i hi d' acts'
    rw [List.range'_succ, List.forIn_cons, wp_bind']
    exact hs i (by omega) d' acts' _ (fun d'' acts'' => ih (i + 1) (by omega) d'' acts'')
/-- one row -/
theorem og_row {U : State} {cI cc : ClassId} {kI : Class} (hI : U.vm.classes[cI]? = some kI ∧ kI.kind = .array cc .int) (hb : 64 ≤ e.platform.arrayLengthLimit ∧ 64 ≤ e.platform.maxHeapBytes) (hr : U.heap.size + 1 ≤ e.platform.maxCells ∧ U.slotsUsed + 16 ≤ e.platform.maxSlots) {Q : Addr → Pre} (hq : ∀ acts', Q U.heap.size d acts' (U.pushCell (ogR cI))) : wp (multianewarray.make cI [16]) Q E e d acts U := by
  have h4 : componentBytes .int = 4 := rfl
  have hw := W.newArray_of (E := E) (d := d) (acts := acts) (Q := Q) (howMany := 16) (init := .int 0) hI.1 hI.2 (by omega) (by rw [h4]; omega) hr.1 hr.2 rfl (fun acts' => by rw [arrV_new]; exact hq acts')
  simpa [multianewarray.make, W.theClass, hI.1, hI.2, defaultValue] using hw
end OG1
section OG2
variable {e : Env} {E : CtlPost} {d : Bool} {acts : List Action}
/-- the whole of it: the road of states is the block with 0, 1, .. 7 rows -/
theorem og_make {T : State} {cA cI cc : ClassId} {kA kI : Class} (hA : T.vm.classes[cA]? = some kA ∧ kA.kind = .array cI (.array .int)) (hI : T.vm.classes[cI]? = some kI ∧ kI.kind = .array cc .int) (hb : 64 ≤ e.platform.arrayLengthLimit ∧ 64 ≤ e.platform.maxHeapBytes) (hr : T.heap.size + 8 ≤ e.platform.maxCells ∧ T.slotsUsed + 119 ≤ e.platform.maxSlots)
    {Q : Addr → Pre} (hq : ∀ d' acts', Q T.heap.size d' acts' (ogB cI (T.pushCell (arrV cA 7 (ogV T.heap.size 7))) 7)) : wp (multianewarray.make cA [7, 16]) Q E e d acts T := by
  have h4 : componentBytes (.array .int) = 4 := rfl
  have h0 : ({ cls := cA, slots := Array.replicate (Int32.toNatClampNeg 7) Value.null } : Cell) = arrV cA 7 (ogV T.heap.size 0) := arrV_new cA 7 .null
  rw [multianewarray.make]
  simp only [show ¬ (7 : Int32) < 0 by decide, if_false, wp_bind', W.theClass, hA.1, hA.2, Option.some.injEq, exists_eq_left', wp_pure']
  refine W.newArray_of hA.1 hA.2 (show ¬ 7 > _ by omega) (show ¬ 7 * _ > _ by rw [h4]; omega) (by omega) (show _ + 7 ≤ _ by omega) rfl (fun acts' => ?_)
  rw [h0, ← ogB_none cI (T.pushCell _), if_neg (show ¬ ((7 : Int32) == 0) = true by decide), wp_bind', Std.Legacy.Range.forIn_eq_forIn_range']
  refine og_count (fun i => ogB cI (T.pushCell (arrV cA 7 (ogV T.heap.size i))) i) _ 7 hq (fun i hi d' acts' Q' hk => ?_) 7 0 rfl d acts'
  have hz : (ogB cI (T.pushCell (arrV cA 7 (ogV T.heap.size i))) i).heap.size = T.heap.size + 1 + i := by
    rw [ogB_size]
    simp
  have hu : (ogB cI (T.pushCell (arrV cA 7 (ogV T.heap.size i))) i).slotsUsed = T.slotsUsed + 7 + 16 * i := by
    show T.slotsUsed + (arrV cA 7 (ogV T.heap.size i)).slots.size + 16 * i = _
    rw [arrV_size]
  have hc : (ogB cI (T.pushCell (arrV cA 7 (ogV T.heap.size i))) (i + 1)).heap[T.heap.size]? = some (arrV cA 7 (ogV T.heap.size i)) := by
    rw [ogB_old _ _ _ (by simp)]
    exact State.heap_pushCell_size _ _
  rw [wp_bind']
  refine og_row (U := ogB cI (T.pushCell (arrV cA 7 (ogV T.heap.size i))) i) hI hb ⟨by omega, by omega⟩ (fun acts'' => ?_)
  rw [ogB_more, hz, wp_bind', W.writeLoc]
  refine ⟨_, hc, (fun h => by cases h), by rw [arrV_size]; exact hi, ?_, ?_⟩
  · show (State.fitsSlot _ cA VmData.none i _) = true
    simp [State.fitsSlot, State.slotType?, ogB, State.pushCell, hA.1, hA.2, fits]
  · rw [arrV_store, ogV_next, ogB_outer _ _ _ (by rw [arrV_size, arrV_size])]
    exact hk _ _
/-- the instruction's own text: what it names, what it pops, what it makes, what it pushes -/
theorem og_sem {V : State} {vm' : Vm} {g : JFrame} {index : Nat} {st : List Value} {cA cI cc : ClassId} {kA kI : Class} (ht : V.topJava?.isSome) (hn : (Jvm.resolveClass g.method.cls index).Gives e.toSetting V.vm (.ok cA) vm') (hz : vm'.classes.size ≤ V.vm.classes.size) (hst : g.stack = .int 16 :: .int 7 :: st)
    (hA : vm'.classes[cA]? = some kA ∧ kA.kind = .array cI (.array .int)) (hI : vm'.classes[cI]? = some kI ∧ kI.kind = .array cc .int) (hb : 64 ≤ e.platform.arrayLengthLimit ∧ 64 ≤ e.platform.maxHeapBytes) (hr : V.heap.size + 8 ≤ e.platform.maxCells ∧ V.slotsUsed + 119 ≤ e.platform.maxSlots)
    {Q : Unit → Pre} (hq : ∀ d' acts', Q () d' acts' ((ogB cI ((V.setVm vm').pushCell (arrV cA 7 (ogV V.heap.size 7))) 7).setTop { g with stack := .ref V.heap.size :: st })) : wp (multianewarray.sem index 2) Q E e d acts (V.setTop g) := by
  rw [multianewarray.sem, wp_bind', W.resolveClassAt_links (State.method?_setTop g ht) hn hz, wp_bind']
  refine (Op.popN_top (s := V.setVm vm') (f := g) (args := [.int 7, .int 16]) (rest := st) ht hst).mpr ?_
  rw [wp_bind', List.mapM_cons, List.mapM_cons, List.mapM_nil]
  simp only [pure_bind]
  rw [wp_pure', wp_bind']
  refine og_make (T := (V.setVm vm').setTop { g with stack := st }) hA hI hb hr (fun d' acts' => ?_)
  rw [wp_bind', W.mark, W.pushRef]
  refine ⟨{ g with stack := st }, State.topJava?_setTop' (s := ogB cI ((V.setVm vm').pushCell (arrV cA 7 (ogV V.heap.size 7))) 7) _ ht, ?_⟩
  have hs := hq true acts'
  rw [← State.setTop_setTop (s := ogB cI ((V.setVm vm').pushCell (arrV cA 7 (ogV V.heap.size 7))) 7) (f := { g with stack := st })] at hs
  exact hs
end OG2
section OG3
variable {p : Program} {l : Launch} {e : Env} {R : Room} {s : State} {m : MethodId} {args : Array Value} {below : List Frame} {meth : Method} {c : Code} {V : State} {locs : List Loc} {cells slots : Nat}
/-- rows are pushed, nothing that was there is written: no place is added to locs -/
theorem og_stand (X : Stand p l e R s m args below meth c V locs cells slots) (cI : ClassId) (n : Nat) : Stand p l e R s m args below meth c (ogB cI V n) locs (cells + n) (slots + 16 * n) := by
  induction n with
  | zero =>
    rw [ogB_none]
    exact X
  | succ n ih =>
    have h := ih.pushed (ogR cI)
    rw [ogB_more, arrV_size] at h
    exact h
/-- the instruction, at the pc of a frame: it leaves the block -/
theorem og_step (X : Stand p l e R s m args below meth c V locs cells slots) (hx : p.tables.exec = Jvm.exec) {own : String} {index pc : Nat} {ls : Array Slot} {st : List Value} (ho : s.vm.findClass own = some m.cls) (hk : (Cond.classLink own index "[[I").before args s = true) (h2 : AO1 s) (h1 : (Cond.arrayClass .int).before args s = true)
    (hd : decode c.code pc = .ok (.multianewarray index 2, 4)) (hR : cells + 8 ≤ R.cells ∧ slots + 119 ≤ R.slots) :
    ∃ (vm' : Vm) (cA cI : ClassId), s.WarmedH vm' ∧ s.vm.findClass "[[I" = some cA ∧ s.vm.findClass "[I" = some cI ∧
      ∀ t, Steps p.tables e below ((ogB cI ((V.setVm vm').pushCell (arrV cA 7 (ogV V.heap.size 7))) 7).setTop (F0 m (pc + 4) ls (.ref V.heap.size :: st))) t → Steps p.tables e below (V.setTop (F0 m pc ls (.int 16 :: .int 7 :: st))) t := by
  obtain ⟨cA, fA, lA⟩ := Cond.classLink_spec ho hk e.platform (by rw [X.admits.platform])
  obtain ⟨cI, cA', kA, fI, fA', gA, eA⟩ := h2
  obtain ⟨cI', kI, cc, fI', gI, eI⟩ := Cond.arrayClass_spec h1
  have q1 : cA' = cA := Option.some.inj (fA'.symm.trans fA)
  have q2 : cI' = cI := Option.some.inj (fI'.symm.trans fI)
  rw [q1] at gA
  rw [q2] at gI
  obtain ⟨hres, hwarm, -⟩ := State.classEntry (e := e) X.warmed lA
  obtain ⟨kA', gA', bA⟩ := hwarm.alike.2.2 _ _ gA
  obtain ⟨kI', gI', bI⟩ := hwarm.alike.2.2 _ _ gI
  have hroom := X.roomAbove hR.1 hR.2
  have hlim : 64 ≤ e.platform.arrayLengthLimit ∧ 64 ≤ e.platform.maxHeapBytes := by
    rw [Launch.admits_arrayLengthLimit X.admits, Launch.admits_maxHeapBytes X.admits]
    decide
  refine ⟨_, cA, cI, hwarm, fA, fI, fun t ht => ?_⟩
  refine Steps.instr (c := c) X.here ?_
  rw [hd, hx]
  refine og_sem (cI := cI) X.here.top hres (by no_record) rfl ⟨gA', by rw [bA]; exact eA⟩ ⟨gI', by rw [bI]; exact eI⟩ hlim hroom (fun d' acts' acts => ?_)
  show Steps p.tables e below (((ogB cI ((V.setVm _).pushCell (arrV cA 7 (ogV V.heap.size 7))) 7).modifyTopJava _).modifyTopJava _) t
  rw [State.modifyTopJava_modifyTopJava]
  exact ht
end OG3
section OG4
variable {p : Program} {l : Launch} {e : Env} {R : Room} {s : State} {m : MethodId} {args : Array Value} {below : List Frame} {meth : Method} {c : Code} {D : va_G} {E : Nat → Nat} {A : Nat → Prop} {nL : Nat} {Q : State → Prop} {K N0 : Nat} {cc : ByteArray} {Ts : List Cond} {own : String} {pc pc' : Nat} {lv : List (Nat × Value)} {st : List Value} {w : va_W} {H : Heap} {locs : List Loc}
/-- a world, its addresses, what else is left alone: one array more at the heap's end -/
theorem og_grow (hA : ∀ q : Nat, s.heap.size ≤ q → A q) (h : va_P D vwCl w H ∧ va_D A w ∧ va_S A s.heap H locs) (a : ClassId × vp_A) :
    va_P D vwCl (w ++ [(H.size, .inl a)]) (H.push (vp_cell a.1 a.2)) ∧ va_D A (w ++ [(H.size, .inl a)]) ∧ va_S A s.heap (H.push (vp_cell a.1 a.2)) locs := by
  obtain ⟨hP, hD, h1, h2, h3⟩ := h
  refine ⟨(hP.kept (fun k q hk => ?_)).app (fun k q hk => ?_), hD.push hP rfl (hA _ h1), ?_, fun q hq hn => ?_, h3⟩
  · rw [Array.getElem?_push, if_neg (Nat.ne_of_lt (hP k q hk).lt)]
  · rw [List.mem_singleton.mp (List.mem_of_getElem? hk)]
    show (H.push (vp_cell a.1 a.2))[H.size]? = _
    rw [Array.getElem?_push, if_pos rfl]
  · rw [Array.size_push]
    omega
  · rw [Array.getElem?_push, if_neg (show ¬ q = H.size by omega)]
    exact h2 q hq hn
/-- and n rows more -/
theorem og_rows (hA : ∀ q : Nat, s.heap.size ≤ q → A q) {V : State} (cI : ClassId) (h : va_P D vwCl w V.heap ∧ va_D A w ∧ va_S A s.heap V.heap locs) (n : Nat) :
    va_P D vwCl (w ++ (List.range n).map (fun i => (V.heap.size + i, .inl (cI, 16, .inl (fun j : Nat => jI (zf j)))))) (ogB cI V n).heap ∧ va_D A (w ++ (List.range n).map (fun i => (V.heap.size + i, .inl (cI, 16, .inl (fun j : Nat => jI (zf j)))))) ∧ va_S A s.heap (ogB cI V n).heap locs := by
  induction n with
  | zero =>
    rw [ogB_none, List.range_zero, List.map_nil, List.append_nil]
    exact h
  | succ n ih =>
    have g := og_grow hA ih (cI, 16, .inl (fun j : Nat => jI (zf j)))
    rw [ogB_size, List.append_assoc] at g
    rw [List.range_succ, List.map_append, ← ogB_more]
    exact g
theorem n_mna {index : Nat} (X : Cx p s m args meth c cc nL Ts own D E A) (hao : AOA s) (d : decode cc pc = .ok (.multianewarray index 2, 4)) (hq : pc + 4 = pc') (h1 : Cond.classLink own index "[[I" ∈ Ts) (h2 : Cond.arrayClass .int ∈ Ts) (hR : K + 8 ≤ R.cells ∧ N0 + 119 ≤ R.slots)
    (k : ∀ (q : Nat) (r : Nat → Nat), JG p l e R s m args below meth c D A nL Q (K + 8) (N0 + 119) pc' lv (.ref q :: st) (w ++ [(q, .inl (E 3, 7, .inr (.inr (.inr (.inr (fun i : Nat => if i < 7 then some (r i) else none)))))), (r 0, .inl (E 0, 16, .inl (fun j : Nat => jI (zf j)))), (r 1, .inl (E 0, 16, .inl (fun j : Nat => jI (zf j)))), (r 2, .inl (E 0, 16, .inl (fun j : Nat => jI (zf j)))), (r 3, .inl (E 0, 16, .inl (fun j : Nat => jI (zf j)))), (r 4, .inl (E 0, 16, .inl (fun j : Nat => jI (zf j)))), (r 5, .inl (E 0, 16, .inl (fun j : Nat => jI (zf j)))), (r 6, .inl (E 0, 16, .inl (fun j : Nat => jI (zf j))))])) : JG p l e R s m args below meth c D A nL Q K N0 pc lv (.int (jI 16) :: .int (jI 7) :: st) w := by
  subst hq
  intro H locs ls hP hD hS hl T hT Y
  subst hT
  obtain ⟨vm', cA, cI, hW, fA, fI, go⟩ := og_step (pc := pc) (ls := ls) (st := st) Y X.1.1 X.1.2.2.2.1 (X.1.2.2.2.2 _ h1) hao.1 (X.1.2.2.2.2 _ h2) (by rw [X.1.2.1]; exact d) hR
  have eA : cA = E 3 := Option.some.inj (fA.symm.trans (X.2.1.2 3 (E 3, .array .int) rfl).2)
  have eI : cI = E 0 := Option.some.inj (fI.symm.trans (X.2.1.2 0 (E 0, .int) rfl).2)
  subst eA
  subst eI
  have Z := og_stand ((Y.noted hW).pushed (arrV (E 3) 7 (ogV T.heap.size 7))) (E 0) 7
  rw [arrV_size] at Z
  have g := og_rows X.2.2.1 (V := (T.setVm vm').pushCell (arrV (E 3) 7 (ogV T.heap.size 7))) (E 0) (og_grow X.2.2.1 ⟨hP, hD, hS⟩ (E 3, 7, .inr (.inr (.inr (.inr (fun i : Nat => if i < 7 then some (T.heap.size + 1 + i) else none)))))) 7
  have ez : ((T.setVm vm').pushCell (arrV (E 3) 7 (ogV T.heap.size 7))).heap.size = T.heap.size + 1 := Array.size_push _
  rw [ez, List.append_assoc] at g
  obtain ⟨gP, gD, gS⟩ := g
  obtain ⟨t, b1, b2⟩ := k T.heap.size (fun i => T.heap.size + 1 + i) _ locs ls gP gD gS hl _ rfl Z
  exact ⟨t, go t b1, b2⟩
end OG4
