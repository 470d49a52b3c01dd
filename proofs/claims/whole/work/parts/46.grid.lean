/-! ===== new int[7][16]: seven rows behind the outer array ===== -/
def gO (h i : Nat) : Nat → Value := fun j => va_rf (if j < i then some (h + 1 + j) else none)
def gZ : Nat → Value := fun _ => .int 0
theorem gO_up (h i : Nat) : updV (gO h i) i (.ref (h + 1 + i)) = gO h (i + 1) := by
  funext j
  unfold updV gO
  by_cases e : j = i
  · subst e
    rw [if_pos rfl, if_pos (show j < j + 1 by omega)]
    rfl
  · rw [if_neg e]
    by_cases q : j < i
    · rw [if_pos q, if_pos (show j < i + 1 by omega)]
    · rw [if_neg q, if_neg (show ¬ j < i + 1 by omega)]
/-- the state with i rows laid -/
def gS (T : State) (cA cI : ClassId) : Nat → State
  | 0 => T.pushCell (arrV cA 7 (gO T.heap.size 0))
  | i + 1 => ((gS T cA cI i).pushCell (arrV cI 16 gZ)).setCell T.heap.size (arrV cA 7 (gO T.heap.size (i + 1)))
def gF (T : State) (cA cI : ClassId) (i : Nat) (U : State) : Prop := U.heap.size = T.heap.size + 1 + i ∧ U.heap[T.heap.size]? = some (arrV cA 7 (gO T.heap.size i)) ∧ U.vm = T.vm ∧ U.slotsUsed = T.slotsUsed + 7 + 16 * i ∧ (∀ x, x < T.heap.size → U.heap[x]? = T.heap[x]?) ∧ ∀ j, j < i → U.heap[T.heap.size + 1 + j]? = some (arrV cI 16 gZ)
theorem gS_f (T : State) (cA cI : ClassId) : ∀ i, gF T cA cI i (gS T cA cI i) := by
  intro i
  induction i with
  | zero =>
    refine ⟨by simp [gS], State.heap_pushCell_size _ _, rfl, ?_, fun x hx => State.heap_pushCell_of_lt _ _ hx, fun j hj => absurd hj (Nat.not_lt_zero _)⟩
    show T.slotsUsed + (arrV cA 7 (gO T.heap.size 0)).slots.size = _
    rw [arrV_size]
  | succ i ih =>
    obtain ⟨a1, a2, a3, a4, a5, a6⟩ := ih
    have hl : T.heap.size < (gS T cA cI i).heap.size := by omega
    have hc : ((gS T cA cI i).pushCell (arrV cI 16 gZ)).heap[T.heap.size]? = some (arrV cA 7 (gO T.heap.size i)) := (State.heap_pushCell_of_lt _ _ hl).trans a2
    refine ⟨?_, State.heap_setCell_self hc, a3, ?_, fun x hx => ?_, fun j hj => ?_⟩
    · have e1 : ((gS T cA cI i).pushCell (arrV cI 16 gZ)).heap.size = (gS T cA cI i).heap.size + 1 := by simp
      simp only [gS, State.setCell, Array.size_setIfInBounds]
      omega
    · show (gS T cA cI i).slotsUsed + (arrV cI 16 gZ).slots.size = _
      rw [arrV_size, a4]
      omega
    · show (((gS T cA cI i).pushCell (arrV cI 16 gZ)).setCell T.heap.size _).heap[x]? = _
      rw [State.heap_setCell_other (show T.heap.size ≠ x by omega), State.heap_pushCell_of_lt _ _ (show x < (gS T cA cI i).heap.size by omega)]
      exact a5 x hx
    · show (((gS T cA cI i).pushCell (arrV cI 16 gZ)).setCell T.heap.size _).heap[T.heap.size + 1 + j]? = _
      rw [State.heap_setCell_other (show T.heap.size ≠ T.heap.size + 1 + j by omega)]
      by_cases q : j < i
      · rw [State.heap_pushCell_of_lt _ _ (show T.heap.size + 1 + j < (gS T cA cI i).heap.size by omega)]
        exact a6 j q
      · have e1 : T.heap.size + 1 + j = (gS T cA cI i).heap.size := by omega
        rw [e1]
        exact State.heap_pushCell_size _ _
theorem gS_top (T : State) (f : JFrame) (cA cI : ClassId) : ∀ i, gS (T.setTop f) cA cI i = (gS T cA cI i).setTop f := by
  intro i
  induction i with
  | zero => rfl
  | succ i ih =>
    show ((gS (T.setTop f) cA cI i).pushCell (arrV cI 16 gZ)).setCell T.heap.size _ = _
    rw [ih]
    rfl
section GRD
variable {p : Program} {l : Launch} {e : Env} {R : Room} {s : State} {m : MethodId} {args : Array Value} {below : List Frame} {meth : Method} {c : Code} {T : State} {locs : List Loc} {cells slots : Nat}
theorem gS_at (X : Stand p l e R s m args below meth c T locs cells slots) (cA cI : ClassId) : ∀ i, ∃ L : List Loc, (∀ q ∈ L, q.base = T.heap.size) ∧ Stand p l e R s m args below meth c (gS T cA cI i) (locs ++ L) (cells + 1 + i) (slots + 7 + 16 * i) := by
  intro i
  induction i with
  | zero =>
    refine ⟨[], fun q hq => absurd hq List.not_mem_nil, ?_⟩
    have h := X.pushed (arrV cA 7 (gO T.heap.size 0))
    rw [arrV_size] at h
    rw [List.append_nil]
    exact h
  | succ i ih =>
    obtain ⟨L, hL, Xi⟩ := ih
    obtain ⟨a1, a2, -⟩ := gS_f T cA cI i
    have hlt : T.heap.size < (gS T cA cI i).heap.size := by rw [a1]; omega
    have hc : ((gS T cA cI i).pushCell (arrV cI 16 gZ)).heap[T.heap.size]? = some (arrV cA 7 (gO T.heap.size i)) := (State.heap_pushCell_of_lt _ _ hlt).trans a2
    have h := (Xi.pushed (arrV cI 16 gZ)).stored hc i (.ref (T.heap.size + 1 + i))
    rw [arrV_size, arrV_store, gO_up, List.append_assoc] at h
    refine ⟨L ++ [⟨T.heap.size, i⟩], fun q hq => ?_, ?_⟩
    · rcases List.mem_append.mp hq with z | z
      · exact hL q z
      · rw [List.mem_singleton.mp z]
    · have e1 : slots + 7 + 16 * (i + 1) = slots + 7 + 16 * i + 16 := by omega
      rw [e1]
      exact h
variable {E : CtlPost} {d : Bool} {acts : List Action}
theorem gW_row {U : State} {cI cc : ClassId} {kI : Class} (hk : U.vm.classes[cI]? = some kI) (hkind : kI.kind = .array cc .int) (hl : ¬ 16 > e.platform.arrayLengthLimit) (hh : ¬ 16 * componentBytes .int > e.platform.maxHeapBytes) (h1 : U.heap.size < e.platform.maxCells) (h2 : U.slotsUsed + 16 ≤ e.platform.maxSlots) {Q : Addr → Pre} (hq : ∀ acts', Q U.heap.size d acts' (U.pushCell (arrV cI 16 gZ))) : wp (multianewarray.make cI [16]) Q E e d acts U := by
  rw [multianewarray.make]
  simp only [wp_bind', W.ite, show ¬ ((16 : Int32) < 0) by decide, if_false, wp_pure', W.theClass, hk, hkind, Option.some.injEq, exists_eq_left']
  refine W.newArray_of hk hkind hl hh h1 h2 rfl (fun acts' => ?_)
  rw [show ({ cls := cI, slots := Array.replicate (16 : Int32).toNatClampNeg (defaultValue .int) } : Cell) = arrV cI 16 gZ from arrV_new cI 16 (.int 0)]
  exact hq acts'
theorem gW_all {U : State} {cA cI cc : ClassId} {kA kI : Class} (hkA : U.vm.classes[cA]? = some kA) (hkindA : kA.kind = .array cI (.array .int)) (hkI : U.vm.classes[cI]? = some kI) (hkindI : kI.kind = .array cc .int)
    (hl : ¬ 16 > e.platform.arrayLengthLimit) (hh : ¬ 16 * componentBytes .int > e.platform.maxHeapBytes) (hc : U.heap.size + 8 ≤ e.platform.maxCells) (hs : U.slotsUsed + 119 ≤ e.platform.maxSlots) {Q : Addr → Pre} (hq : ∀ d' acts', Q U.heap.size d' acts' (gS U cA cI 7)) : wp (multianewarray.make cA [7, 16]) Q E e d acts U := by
  have hl7 : ¬ 7 > e.platform.arrayLengthLimit := by omega
  have hh7 : ¬ 7 * componentBytes (.array .int) > e.platform.maxHeapBytes := by
    have e1 : componentBytes (.array .int) = 4 := rfl
    have e2 : componentBytes .int = 4 := rfl
    rw [e1]
    rw [e2] at hh
    omega
  rw [multianewarray.make]
  simp only [wp_bind', W.ite, show ¬ ((7 : Int32) < 0) by decide, if_false, wp_pure', W.theClass, hkA, hkindA, Option.some.injEq, exists_eq_left']
  refine W.newArray_of hkA hkindA hl7 hh7 (by omega) (show U.slotsUsed + 7 ≤ _ by omega) rfl (fun acts' => ?_)
  rw [show ({ cls := cA, slots := Array.replicate (7 : Int32).toNatClampNeg Value.null } : Cell) = arrV cA 7 (gO U.heap.size 0) from (arrV_new cA 7 .null).trans (congrArg (arrV cA 7) (funext fun j => by unfold gO; rw [if_neg (Nat.not_lt_zero j)]; rfl))]
  rw [show ((7 : Int32) == 0) = false from rfl]
  simp only [Bool.false_eq_true, if_false, wp_pure']
  rw [wp_bind', Std.Legacy.Range.forIn_eq_forIn_range']
  refine wp_forIn_inv (fun rest s' => ∃ i, i ≤ 7 ∧ rest = List.range' i (7 - i) ∧ s' = gS U cA cI i) _ _ ⟨0, by omega, rfl, rfl⟩ ?_ ?_
  · rintro x rest s' d' acts'' Q' ⟨i, hi, hr, hs'⟩ hn
    subst hs'
    have hlt : i < 7 := by
      rcases Nat.lt_or_ge i 7 with z | z
      · exact z
      · rw [show 7 - i = 0 by omega] at hr
        cases hr
    rw [show 7 - i = (7 - (i + 1)) + 1 by omega, List.range'_succ] at hr
    obtain ⟨hx, hr⟩ := List.cons.inj hr
    subst hx
    obtain ⟨a1, a2, a3, a4, -⟩ := gS_f U cA cI x
    simp only [wp_bind']
    refine gW_row (by rw [a3]; exact hkI) hkindI hl hh (by omega) (by omega) (fun acts3 => ?_)
    simp only [wp_bind', W.writeLoc, wp_pure']
    have hlu : U.heap.size < (gS U cA cI x).heap.size := by rw [a1]; omega
    have hcell : ((gS U cA cI x).pushCell (arrV cI 16 gZ)).heap[U.heap.size]? = some (arrV cA 7 (gO U.heap.size x)) := (State.heap_pushCell_of_lt _ _ hlu).trans a2
    refine ⟨arrV cA 7 (gO U.heap.size x), hcell, by simp [arrV], by rw [arrV_size]; exact hlt, ?_, hn _ _ _ ⟨x + 1, hlt, hr, ?_⟩⟩
    · simp [State.fitsSlot, State.slotType?, arrV, a3, hkA, hkindA, fits]
    · rw [arrV_store, a1, gO_up]
      rfl
  · rintro s' d' acts'' ⟨i, hi, hr, hs'⟩
    have hi7 : i = 7 := by
      rcases Nat.lt_or_ge i 7 with z | z
      · rw [show 7 - i = (7 - (i + 1)) + 1 by omega, List.range'_succ] at hr
        cases hr
      · omega
    subst hi7
    subst hs'
    exact hq _ _
theorem gW_step (X : Stand p l e R s m args below meth c T locs cells slots) (hexec : p.tables.exec = Jvm.exec) {own : String} {index : Nat} (hown : s.vm.findClass own = some m.cls) (hclink : (Cond.classLink own index "[[I").before args s = true) (hover : (Cond.arrayOver (.array .int)).before #[] s = true) (harr : (Cond.arrayClass .int).before args s = true)
    {g : JFrame} (hg : g.method = m) (hdg : decode c.code g.pc = .ok (.multianewarray index 2, 4)) {rest : List Value} (hstack : g.stack = .int 16 :: .int 7 :: rest) (hcells : cells + 8 ≤ R.cells) (hslots : slots + 119 ≤ R.slots) :
    ∃ (vm₁ : Vm) (cA cI : ClassId), s.WarmedH vm₁ ∧ s.vm.findClass "[[I" = some cA ∧ s.vm.findClass "[I" = some cI ∧
      ∀ target, Steps p.tables e below ((gS (T.setVm vm₁) cA cI 7).setTop { g with pc := g.pc + 4, stack := .ref T.heap.size :: rest }) target → Steps p.tables e below (T.setTop g) target := by
  subst hg
  have hpl : e.platform.magicAccessors = ({} : Platform).magicAccessors := by rw [X.admits.platform]
  obtain ⟨cI, cA, kA, hcomp, -, hkA, hkindA, hnameA⟩ := arrayOverA_spec hover
  obtain ⟨cI', kI, cc, hcomp', hkI, hkindI⟩ := Cond.arrayClass_spec harr
  have ecomp : cI' = cI := Option.some.inj (hcomp'.symm.trans hcomp)
  subst ecomp
  obtain ⟨c0, hfc0, hcl⟩ := Cond.classLink_spec hown hclink e.platform hpl
  have ec0 : cA = c0 := Option.some.inj (hnameA.symm.trans hfc0)
  subst ec0
  obtain ⟨hg₁, hwarm₁, -⟩ := State.classEntry (e := e) X.warmed hcl
  generalize T.vm.noted g.method.cls index (.cls cA) = vm₁ at hg₁ hwarm₁
  obtain ⟨kA₁, hkA₁, heA⟩ := hwarm₁.alike.2.2 _ _ hkA
  obtain ⟨kI₁, hkI₁, heI⟩ := hwarm₁.alike.2.2 _ _ hkI
  have X₁ := X.noted hwarm₁
  obtain ⟨hr1, hr2⟩ := X.roomAbove hcells hslots
  refine ⟨vm₁, cA, cI', hwarm₁, hnameA, hcomp, fun target hrest => ?_⟩
  have hl : ¬ 16 > e.platform.arrayLengthLimit := by rw [Launch.admits_arrayLengthLimit X.admits]; decide
  have hh : ¬ 16 * componentBytes .int > e.platform.maxHeapBytes := by rw [Launch.admits_maxHeapBytes X.admits]; decide
  jvm_step X.here [hexec, hdg]
  simp only [multianewarray.sem, wp_bind', W.resolveClassAt_links (State.method?_setTop g X.here.top) hg₁]
  rw [W.popN, if_neg (by decide)]
  refine ⟨g, State.topJava?_setTop' (s := T.setVm vm₁) g X.here.top, [.int 7, .int 16], rest, rfl, hstack, ?_⟩
  simp only [List.mapM_cons, List.mapM_nil, wp_bind', wp_pure']
  refine gW_all (kA := kA₁) (kI := kI₁) (cc := cc) hkA₁ (by rw [heA]; exact hkindA) hkI₁ (by rw [heI]; exact hkindI) hl hh (by show T.heap.size + 8 ≤ _; exact hr1) (by show T.slotsUsed + 119 ≤ _; exact hr2) (fun d' acts' => ?_)
  obtain ⟨L, -, XF⟩ := gS_at X₁ cA cI' 7
  have eS : ((T.setTop g).setVm vm₁).setTop { g with stack := rest } = (T.setVm vm₁).setTop { g with stack := rest } := by
    show ((T.setVm vm₁).setTop g).setTop _ = _
    rw [State.setTop_setTop]
  rw [eS, gS_top]
  simp only [wp_bind', W.mark, W.pushRef, State.topJava?_setTop' _ XF.here.top, Option.some.injEq, exists_eq_left', State.setTop_setTop, State.heap_setTop]
  intro acts
  simp [jvm, XF.here.top]
  exact hrest
end GRD
section NM
variable {p : Program} {l : Launch} {e : Env} {R : Room} {s : State} {m : MethodId} {args : Array Value} {below : List Frame} {meth : Method} {c : Code} {D : va_G} {E : Nat → Nat} {A : Nat → Prop} {nL : Nat} {Q : State → Prop} {K N0 : Nat} {cc : ByteArray} {Ts : List Cond} {own : String} {pc pc' : Nat} {lv : List (Nat × Value)} {st : List Value} {w : va_W}
theorem n_mna {index : Nat} (X : Cx p s m args meth c cc nL Ts own D E A) (hao : AOA s) (d : decode cc pc = .ok (.multianewarray index 2, 4)) (hq : pc + 4 = pc') (h1 : Cond.classLink own index "[[I" ∈ Ts) (h2 : Cond.arrayClass .int ∈ Ts) (hR : K + 8 ≤ R.cells ∧ N0 + 119 ≤ R.slots)
    (k : ∀ (q : Nat) (r : Nat → Nat), JG p l e R s m args below meth c D A nL Q (K + 8) (N0 + 119) pc' lv (.ref q :: st) (w ++ [(q, .inl (E 3, 7, .inr (.inr (.inr (.inr (fun i : Nat => if i < 7 then some (r i) else none)))))), (r 0, .inl (E 0, 16, .inl (fun j : Nat => jI (zf j)))), (r 1, .inl (E 0, 16, .inl (fun j : Nat => jI (zf j)))), (r 2, .inl (E 0, 16, .inl (fun j : Nat => jI (zf j)))), (r 3, .inl (E 0, 16, .inl (fun j : Nat => jI (zf j)))), (r 4, .inl (E 0, 16, .inl (fun j : Nat => jI (zf j)))), (r 5, .inl (E 0, 16, .inl (fun j : Nat => jI (zf j)))), (r 6, .inl (E 0, 16, .inl (fun j : Nat => jI (zf j))))])) : JG p l e R s m args below meth c D A nL Q K N0 pc lv (.int (jI 16) :: .int (jI 7) :: st) w := by
  subst hq
  intro H locs ls hP hD hS hl T hT Xs
  obtain ⟨vm₁, cA, cI, hW1, fA, fI, step⟩ := gW_step Xs X.1.1 X.1.2.2.2.1 (X.1.2.2.2.2 _ h1) hao.1 (X.1.2.2.2.2 _ h2) (g := F0 m pc ls (.int (jI 16) :: .int (jI 7) :: st)) rfl (by rw [X.1.2.1]; exact d) (rest := st) rfl hR.1 hR.2
  have eA : cA = E 3 := Option.some.inj (fA.symm.trans (X.2.1.2 3 (E 3, .array .int) rfl).2)
  have eI : cI = E 0 := Option.some.inj (fI.symm.trans (X.2.1.2 0 (E 0, .int) rfl).2)
  subst eA
  subst eI
  obtain ⟨a1, a2, -, -, a5, a6⟩ := gS_f (T.setVm vm₁) (E 3) (E 0) 7
  obtain ⟨L, hL, XF⟩ := gS_at (Xs.noted hW1) (E 3) (E 0) 7
  have hTh : (T.setVm vm₁).heap = H := hT
  rw [hTh] at a1 a2 a5 a6 hL
  generalize hU : gS (T.setVm vm₁) (E 3) (E 0) 7 = U at a1 a2 a5 a6 XF step
  have hA0 : s.heap.size ≤ H.size := hS.1
  have e1 : arrV (E 3) 7 (gO H.size 7) = vp_cell (E 3) (7, .inr (.inr (.inr (.inr (fun i => if i < 7 then some (H.size + 1 + i) else none))))) := by
    rw [vp_cell_q]
    rfl
  have e2 : arrV (E 0) 16 gZ = vp_cell (E 0) (16, .inl (fun j : Nat => jI (zf j))) := rfl
  rw [e1] at a2
  rw [e2] at a6
  have hnew : ∀ q : Nat × va_E, q ∈ ([(H.size, .inl (E 3, 7, .inr (.inr (.inr (.inr (fun i : Nat => if i < 7 then some (H.size + 1 + i) else none)))))), (H.size + 1 + 0, .inl (E 0, 16, .inl (fun j : Nat => jI (zf j)))), (H.size + 1 + 1, .inl (E 0, 16, .inl (fun j : Nat => jI (zf j)))), (H.size + 1 + 2, .inl (E 0, 16, .inl (fun j : Nat => jI (zf j)))), (H.size + 1 + 3, .inl (E 0, 16, .inl (fun j : Nat => jI (zf j)))), (H.size + 1 + 4, .inl (E 0, 16, .inl (fun j : Nat => jI (zf j)))), (H.size + 1 + 5, .inl (E 0, 16, .inl (fun j : Nat => jI (zf j)))), (H.size + 1 + 6, .inl (E 0, 16, .inl (fun j : Nat => jI (zf j))))] : va_W) → va_at D vwCl q U.heap := by
    refine List.forall_mem_cons.mpr ⟨a2, List.forall_mem_cons.mpr ⟨a6 0 (by omega), List.forall_mem_cons.mpr ⟨a6 1 (by omega), List.forall_mem_cons.mpr ⟨a6 2 (by omega), List.forall_mem_cons.mpr ⟨a6 3 (by omega), List.forall_mem_cons.mpr ⟨a6 4 (by omega), List.forall_mem_cons.mpr ⟨a6 5 (by omega), List.forall_mem_cons.mpr ⟨a6 6 (by omega), fun _ h => absurd h List.not_mem_nil⟩⟩⟩⟩⟩⟩⟩⟩
  have hadr : ∀ (i : Nat) (q : Nat × va_E), ([(H.size, .inl (E 3, 7, .inr (.inr (.inr (.inr (fun i : Nat => if i < 7 then some (H.size + 1 + i) else none)))))), (H.size + 1 + 0, .inl (E 0, 16, .inl (fun j : Nat => jI (zf j)))), (H.size + 1 + 1, .inl (E 0, 16, .inl (fun j : Nat => jI (zf j)))), (H.size + 1 + 2, .inl (E 0, 16, .inl (fun j : Nat => jI (zf j)))), (H.size + 1 + 3, .inl (E 0, 16, .inl (fun j : Nat => jI (zf j)))), (H.size + 1 + 4, .inl (E 0, 16, .inl (fun j : Nat => jI (zf j)))), (H.size + 1 + 5, .inl (E 0, 16, .inl (fun j : Nat => jI (zf j)))), (H.size + 1 + 6, .inl (E 0, 16, .inl (fun j : Nat => jI (zf j))))] : va_W)[i]? = some q → q.1 = H.size + i := by
    intro i q hi
    match i, hi with
    | 0, hi => cases hi; rfl
    | 1, hi => cases hi; show H.size + 1 + 0 = _; omega
    | 2, hi => cases hi; show H.size + 1 + 1 = _; omega
    | 3, hi => cases hi; show H.size + 1 + 2 = _; omega
    | 4, hi => cases hi; show H.size + 1 + 3 = _; omega
    | 5, hi => cases hi; show H.size + 1 + 4 = _; omega
    | 6, hi => cases hi; show H.size + 1 + 5 = _; omega
    | 7, hi => cases hi; show H.size + 1 + 6 = _; omega
    | i + 8, hi => cases hi
  obtain ⟨t, b1, b2⟩ := k H.size (fun i => H.size + 1 + i) U.heap (locs ++ L) ls ((hP.kept (fun i x hx => a5 x.1 (hP i x hx).lt)).app (fun i q hi => hnew q (List.mem_of_getElem? hi))) (hD.app ⟨fun i j x y hi hj hxy => by have := hadr i x hi; have := hadr j y hj; omega, fun i x hx => X.2.2.1 _ (by have := hadr i x hx; omega)⟩ (fun i j x y hi hj hxy => by have := (hP i x hi).lt; have := hadr j y hj; omega)) ⟨by omega, fun x h3 h4 => (a5 x (by omega)).trans (hS.2.1 x h3 h4), fun q hq => by
      rcases List.mem_append.mp hq with z | z
      · exact hS.2.2 q z
      · rw [hL q z]; exact X.2.2.1 _ hA0⟩ hl U rfl XF
  refine ⟨t, step t ?_, b2⟩
  have e3 : T.heap.size = H.size := by rw [hT]
  rw [e3]
  exact b1
end NM
