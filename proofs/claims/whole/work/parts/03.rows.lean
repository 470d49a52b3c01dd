/-! ===== worlds of the class and of the reference; what is given of statics and nest mates ===== -/
abbrev tysE (E : Nat → Nat) : List (ClassId × FieldType) := [(E 0, .int), (E 1, .long), (E 2, .boolean), (E 3, .array .int)]
def tkL : List Int := [96, 64, 144, 96, 48, 32, 72, 48, 24, 16, 36, 24, 12, 8, 18, 12, 6, 4, 9, 6]
def twL : List Int := [5, 6, 4, 5, 4, 5, 3, 4, 3, 4, 2, 3, 2, 3, 1, 2, 1, 2, 0, 1]
def thL : List Int := [1, 0, 2, 1, 1, 0, 2, 1, 1, 0, 2, 1, 1, 0, 2, 1, 1, 0, 2, 1]
def tk (v : Int) : Int := tkL.getD v.toNat 0
def tw (v : Int) : Int := twL.getD v.toNat 0
def th (v : Int) : Int := thL.getD v.toNat 0
def nwF : List (String × Nat × String) := [("PivotBeats$Piece", 40, "TWOS"), ("PivotBeats$Piece", 43, "THREES"), ("PivotBeats$Piece", 46, "TICKS"), ("PivotBeats$PivotRow", 88, "TWOS"), ("PivotBeats$PivotRow", 91, "THREES")]
def nwM : List (String × Nat × MethodName) := [("PivotBeats$PivotRow", 44, ⟨"PivotBeats", "restOf", "(I)J"⟩), ("PivotBeats$PivotRow", 54, ⟨"PivotBeats", "countOfFactor", "(II)I"⟩), ("PivotBeats$PivotRow", 70, ⟨"PivotBeats", "power", "(JI)J"⟩)]
def NW (U : State) : Prop := (∀ x ∈ nwF, va_Nw (.fieldLinkNest x.1 x.2.1 "PivotBeats" x.2.2 "[I" "PivotBeats") U) ∧ (∀ x ∈ nwM, va_Nw (.methodLinkNest x.1 x.2.1 x.2.2 "PivotBeats") U)
def StZ (E : Nat → Nat) (A : Nat → Prop) (U : State) (H : Heap) : Prop :=
  (va_Z "PivotBeats" "TICKS" "[I" (.ref (E 10)) A U H ∧ va_Z "PivotBeats" "TWOS" "[I" (.ref (E 11)) A U H ∧ va_Z "PivotBeats" "THREES" "[I" (.ref (E 12)) A U H) ∧
  (va_T .int (E 10) 20 (fun i => .int (jI (tk i))) A U H ∧ va_T .int (E 11) 20 (fun i => .int (jI (tw i))) A U H ∧ va_T .int (E 12) 20 (fun i => .int (jI (th i))) A U H) ∧ NW U
theorem NW.warm {s U : State} (hW : s.WarmedH U.vm) (h : NW s) : NW U := ⟨fun x hx => va_Nw.warmF hW (h.1 x hx), fun x hx => va_Nw.warmM hW (h.2 x hx)⟩
theorem NW.same {s U : State} (hv : s.vm = U.vm) (h : NW s) : NW U := ⟨fun x hx => va_Nw.same rfl hv (h.1 x hx), fun x hx => va_Nw.same rfl hv (h.2 x hx)⟩
theorem StZ.warm {E : Nat → Nat} {A : Nat → Prop} {s U : State} {H : Heap} (hW : s.WarmedH U.vm) (h : StZ E A s H) : StZ E A U H :=
  ⟨⟨h.1.1.moved hW.alike, h.1.2.1.moved hW.alike, h.1.2.2.moved hW.alike⟩, ⟨h.2.1.1.moved hW.alike, h.2.1.2.1.moved hW.alike, h.2.1.2.2.moved hW.alike⟩, h.2.2.warm hW⟩
theorem StZ.kept {E : Nat → Nat} {A : Nat → Prop} {U : State} {H H1 : Heap} (h : StZ E A U H) (hq : ∀ a : Nat, a < H.size → ¬ A a → H1[a]? = H[a]?) : StZ E A U H1 :=
  ⟨⟨h.1.1.kept hq, h.1.2.1.kept hq, h.1.2.2.kept hq⟩, ⟨h.2.1.1.kept hq, h.2.1.2.1.kept hq, h.2.1.2.2.kept hq⟩, h.2.2⟩
theorem StZ.narrow {E : Nat → Nat} {A B : Nat → Prop} {U : State} {H : Heap} (h : StZ E A U H) (hAB : ∀ q, B q → A q) : StZ E B U H :=
  ⟨⟨h.1.1.narrow hAB, h.1.2.1.narrow hAB, h.1.2.2.narrow hAB⟩, ⟨h.2.1.1.narrow hAB, h.2.1.2.1.narrow hAB, h.2.1.2.2.narrow hAB⟩, h.2.2⟩
theorem StZ.call {E : Nat → Nat} {A : Nat → Prop} {U : State} {H : Heap} (g : JFrame) (mk : MethodId) (a : Array Value) (h : StZ E A U H) : StZ E A (U.calling g mk a) H :=
  ⟨⟨h.1.1.moved (Vm.Alike.refl U.vm), h.1.2.1.moved (Vm.Alike.refl U.vm), h.1.2.2.moved (Vm.Alike.refl U.vm)⟩, ⟨h.2.1.1.moved (Vm.Alike.refl U.vm), h.2.1.2.1.moved (Vm.Alike.refl U.vm), h.2.1.2.2.moved (Vm.Alike.refl U.vm)⟩, h.2.2.same rfl⟩

def MW (E q : Nat → Nat) (σ : St) : va_W := [(q 0, .inr (6, [.int (jI (σ 0 0)), .ref (q 1), .ref (q 2), .int (jI (σ 3 0)), .int (jI (σ 4 0)), .ref (q 5), .ref (q 6), .ref (q 7), .ref (q 8), .ref (q 9), .int (jI (σ 10 0)), .ref (q 11), .ref (q 12), .int (jI (σ 13 0)), .ref (q 14), .ref (q 15), .ref (q 16), .ref (q 17), .int (jI (σ 18 0))])), (q 1, .inl (E 0, 7, .inl (fun i : Nat => jI (σ 1 i)))), (q 2, .inl (E 0, 7, .inl (fun i : Nat => jI (σ 2 i)))), (q 5, .inl (E 0, 60, .inl (fun i : Nat => jI (σ 5 i)))), (q 6, .inl (E 0, 12, .inl (fun i : Nat => jI (σ 6 i)))), (q 7, .inl (E 1, 7, .inr (.inl (fun i : Nat => jL (σ 7 i))))), (q 8, .inl (E 1, 7, .inr (.inl (fun i : Nat => jL (σ 8 i))))), (q 9, .inl (E 0, 7, .inl (fun i : Nat => jI (σ 9 i)))), (q 11, .inl (E 0, 7, .inl (fun i : Nat => jI (σ 11 i)))), (q 12, .inl (E 0, 7, .inl (fun i : Nat => jI (σ 12 i)))), (q 14, .inl (E 0, 16, .inl (fun i : Nat => jI (σ 14 i)))), (q 15, .inl (E 0, 7, .inl (fun i : Nat => jI (σ 15 i)))), (q 16, .inl (E 0, 112, .inl (fun i : Nat => jI (σ 16 i)))), (q 17, .inl (E 0, 1281, .inl (fun i : Nat => jI (σ 17 i))))]
def CW (E q : Nat → Nat) (σ : St) : va_W := [(q 0, .inr (5, [.ref (q 36), .ref (q 37), .ref (q 38), .ref (q 39), .ref (q 40), .int (jI (σ 0 0))])), (q 36, .inr (3, [.int (jI (σ 1 0)), .ref (q 2), .ref (q 3), .int (jI (σ 4 0)), .ref (q 5), .ref (q 6), .ref (q 7), .ref (q 8), .ref (q 9)])), (q 37, .inr (1, [.ref (q 10), .ref (q 11), .ref (q 12), .ref (q 13), .ref (q 14)])), (q 38, .inr (2, [.ref (q 15), .int (jI (σ 16 0))])), (q 39, .inr (0, [.ref (q 17), .int (jI (σ 18 0)), .int (jI (σ 19 0)), .ref (q 20), .ref (q 21), .ref (q 22), .ref (q 23), .ref (q 24), .int (jI (σ 25 0))])), (q 40, .inr (4, [.int (jI (σ 26 0)), .ref (q 27), .int (jI (σ 28 0)), .int (jI (σ 29 0)), .int (jI (σ 30 0)), .ref (q 31), .ref (q 32), .ref (q 33), .ref (q 34), .ref (q 35)])), (q 2, .inl (E 0, 7, .inl (fun i : Nat => jI (σ 2 i)))), (q 3, .inl (E 0, 7, .inl (fun i : Nat => jI (σ 3 i)))), (q 5, .inl (E 0, 12, .inl (fun i : Nat => jI (σ 5 i)))), (q 6, .inl (E 0, 12, .inl (fun i : Nat => jI (σ 6 i)))), (q 7, .inl (E 0, 12, .inl (fun i : Nat => jI (σ 7 i)))), (q 8, .inl (E 0, 12, .inl (fun i : Nat => jI (σ 8 i)))), (q 9, .inl (E 0, 12, .inl (fun i : Nat => jI (σ 9 i)))), (q 10, .inl (E 0, 7, .inl (fun i : Nat => jI (σ 10 i)))), (q 11, .inl (E 0, 7, .inl (fun i : Nat => jI (σ 11 i)))), (q 12, .inl (E 0, 7, .inl (fun i : Nat => jI (σ 12 i)))), (q 13, .inl (E 0, 7, .inl (fun i : Nat => jI (σ 13 i)))), (q 14, .inl (E 0, 12, .inl (fun i : Nat => jI (σ 14 i)))), (q 15, .inl (E 0, 16, .inl (fun i : Nat => jI (σ 15 i)))), (q 17, .inl (E 0, 7, .inl (fun i : Nat => jI (σ 17 i)))), (q 20, .inl (E 0, 7, .inl (fun i : Nat => jI (σ 20 i)))), (q 21, .inl (E 0, 7, .inl (fun i : Nat => jI (σ 21 i)))), (q 23, .inl (E 0, 7, .inl (fun i : Nat => jI (σ 23 i)))), (q 24, .inl (E 0, 7, .inl (fun i : Nat => jI (σ 24 i)))), (q 27, .inl (E 0, 5, .inl (fun i : Nat => jI (σ 27 i)))), (q 31, .inl (E 0, 21, .inl (fun i : Nat => jI (σ 31 i)))), (q 32, .inl (E 0, 21, .inl (fun i : Nat => jI (σ 32 i)))), (q 33, .inl (E 2, 65, .inl (fun i : Nat => jI (σ 33 i)))), (q 34, .inl (E 0, 105, .inl (fun i : Nat => jI (σ 34 i)))), (q 35, .inl (E 0, 105, .inl (fun i : Nat => jI (σ 35 i)))), (q 22, .inl (E 3, 7, .inr (.inr (.inr (.inr (fun i : Nat => if i < 7 then some (q (50 + i)) else none)))))), (q 50, .inl (E 0, 16, .inl (fun i : Nat => jI (σ 22 (0 + i))))), (q 51, .inl (E 0, 16, .inl (fun i : Nat => jI (σ 22 (16 + i))))), (q 52, .inl (E 0, 16, .inl (fun i : Nat => jI (σ 22 (32 + i))))), (q 53, .inl (E 0, 16, .inl (fun i : Nat => jI (σ 22 (48 + i))))), (q 54, .inl (E 0, 16, .inl (fun i : Nat => jI (σ 22 (64 + i))))), (q 55, .inl (E 0, 16, .inl (fun i : Nat => jI (σ 22 (80 + i))))), (q 56, .inl (E 0, 16, .inl (fun i : Nat => jI (σ 22 (96 + i)))))]
/-! ===== a contract: over a world, with statics; its start and its ends ===== -/
def Pw (D : va_G) (E : Nat → Nat) (w : va_W) (sz : Nat) (U : State) : Prop := U.heap.size = sz ∧ va_P D vwCl w U.heap ∧ va_K D vwCl (tysE E) U ∧ va_D (fun _ => True) w ∧ StZ E (va_A w sz) U U.heap
def Bw {S : Type} (D : va_G) (wf : S → va_W) (A : Nat → Prop) (u : S) (t : State) : Prop := va_P D vwCl (wf u) t.heap ∧ va_D A (wf u)
def CtI {S : Type} (l : Launch) (D : va_G) (E : Nat → Nat) (y : MethodName) (ws : List Cond) (rm : Room) (as : List Value) (w : va_W) (wf : S → va_W) (post : Int → S → Prop) : Prop :=
  ∀ sz : Nat, Met l y ws rm (va_Pc as (Pw D E w sz)) (va_Qi (fun r u => ∃ x, r = jI x ∧ post x u) (Bw D wf (va_A w sz)) (va_A w sz)) 0 0 (va_A w sz)
def CtL {S : Type} (l : Launch) (D : va_G) (E : Nat → Nat) (y : MethodName) (ws : List Cond) (rm : Room) (as : List Value) (w : va_W) (wf : S → va_W) (post : Int → S → Prop) : Prop :=
  ∀ sz : Nat, Met l y ws rm (va_Pc as (Pw D E w sz)) (va_Ql (fun r u => ∃ x, r = jL x ∧ post x u) (Bw D wf (va_A w sz)) (va_A w sz)) 0 0 (va_A w sz)
def CtV {S : Type} (l : Launch) (D : va_G) (E : Nat → Nat) (y : MethodName) (ws : List Cond) (rm : Room) (as : List Value) (w : va_W) (wf : S → va_W) (post : S → Prop) : Prop :=
  ∀ sz : Nat, Met l y ws rm (va_Pc as (Pw D E w sz)) (va_Qv post (Bw D wf (va_A w sz)) (va_A w sz)) 0 0 (va_A w sz)
theorem Pw.blind (D : va_G) (E : Nat → Nat) (w : va_W) (sz : Nat) (as : List Value) : FrameBlind (va_Pc as (Pw D E w sz)) := by
  intro a U g mk q
  obtain ⟨q0, q1, qP, qK, qD, qZ⟩ := q
  exact ⟨q0, q1, qP, va_K.moved (u := U) (U := U.calling g mk a) (Vm.Alike.refl U.vm) qK, qD, StZ.call g mk a qZ⟩
/-! ===== the judgement: at pc, with these locals, this stack, this world ===== -/
def J (p : Program) (l : Launch) (e : Env) (R : Room) (s : State) (m : MethodId) (args : Array Value) (below : List Frame) (meth : Method) (c : Code) (D : va_G) (A : Nat → Prop) (nL : Nat) (Q : State → Prop) (pc : Nat) (lv : List (Nat × Value)) (st : List Value) (w : va_W) : Prop :=
  ∀ (H : Heap) (locs : List Loc) (ls : Array Slot), va_P D vwCl w H → va_D A w → va_S A s.heap H locs → lv_has ls nL lv → W p l e R s m args below meth c H locs 0 0 Q (F0 m pc ls st)
def Cx (p : Program) (s : State) (m : MethodId) (args : Array Value) (meth : Method) (c : Code) (cc : ByteArray) (nL : Nat) (Ts : List Cond) (own : String) (D : va_G) (E : Nat → Nat) (A : Nat → Prop) : Prop :=
  CallFix p m c cc nL s args Ts own ∧ va_K D vwCl (tysE E) s ∧ (∀ q, s.heap.size ≤ q → A q) ∧ StZ E A s s.heap ∧ meth.locks = false
section ZR
variable {p : Program} {l : Launch} {e : Env} {R : Room} {s : State} {m : MethodId} {args : Array Value} {below : List Frame} {meth : Method} {c : Code} {D : va_G} {E : Nat → Nat} {A : Nat → Prop} {nL : Nat} {Q : State → Prop} {cc : ByteArray} {Ts : List Cond} {own : String} {pc pc' tgt : Nat} {lv lv' : List (Nat × Value)} {st : List Value} {w : va_W}
theorem z_iconst {n : Int} (X : Cx p s m args meth c cc nL Ts own D E A) (d : decode cc pc = .ok (.iconst n, 1)) (hq : pc + 1 = pc') (k : J p l e R s m args below meth c D A nL Q pc' lv (.int (jI n) :: st) w) : J p l e R s m args below meth c D A nL Q pc lv (st) w := by
  subst hq
  intro H locs ls hP hD hS hl
  exact lv_iconst X.1.1 X.1.2.1 d rfl (k H locs ls hP hD hS hl)
theorem z_bipush {n : Int} (X : Cx p s m args meth c cc nL Ts own D E A) (d : decode cc pc = .ok (.bipush n, 2)) (hq : pc + 2 = pc') (hv : (Int8.ofInt n).toInt32 = jI n) (k : J p l e R s m args below meth c D A nL Q pc' lv (.int (jI n) :: st) w) : J p l e R s m args below meth c D A nL Q pc lv (st) w := by
  subst hq
  intro H locs ls hP hD hS hl
  exact lv_bipush X.1.1 X.1.2.1 d hv (k H locs ls hP hD hS hl)
theorem z_sipush {n : Int} (X : Cx p s m args meth c cc nL Ts own D E A) (d : decode cc pc = .ok (.sipush n, 3)) (hq : pc + 3 = pc') (hv : (Int16.ofInt n).toInt32 = jI n) (k : J p l e R s m args below meth c D A nL Q pc' lv (.int (jI n) :: st) w) : J p l e R s m args below meth c D A nL Q pc lv (st) w := by
  subst hq
  intro H locs ls hP hD hS hl
  exact lv_sipush X.1.1 X.1.2.1 d hv (k H locs ls hP hD hS hl)
theorem z_lconst {n : Fin 2} {x : Int} (X : Cx p s m args meth c cc nL Ts own D E A) (d : decode cc pc = .ok (.lconst n, 1)) (hq : pc + 1 = pc') (hv : Int64.ofNat (n : Nat) = jL x) (k : J p l e R s m args below meth c D A nL Q pc' lv (.long (jL x) :: st) w) : J p l e R s m args below meth c D A nL Q pc lv (st) w := by
  subst hq
  intro H locs ls hP hD hS hl
  exact lv_lconst X.1.1 X.1.2.1 d hv (k H locs ls hP hD hS hl)
theorem z_ldc {index : Nat} {n : Int32} {x : Int} (X : Cx p s m args meth c cc nL Ts own D E A) (d : decode cc pc = .ok (.ldc index, 2)) (hq : pc + 2 = pc') (hm : Cond.constant own index n ∈ Ts) (hv : n = jI x) (k : J p l e R s m args below meth c D A nL Q pc' lv (.int (jI x) :: st) w) : J p l e R s m args below meth c D A nL Q pc lv (st) w := by
  subst hq
  intro H locs ls hP hD hS hl
  subst hv
  exact lv_ldc X.1.1 X.1.2.1 X.1.2.2.2.1 (X.1.2.2.2.2 _ hm) d (k H locs ls hP hD hS hl)
theorem z_ldc2 {index : Nat} {n : Int64} {x : Int} (X : Cx p s m args meth c cc nL Ts own D E A) (d : decode cc pc = .ok (.ldc2_w index, 3)) (hq : pc + 3 = pc') (hm : Cond.constantLong own index n ∈ Ts) (hv : n = jL x) (k : J p l e R s m args below meth c D A nL Q pc' lv (.long (jL x) :: st) w) : J p l e R s m args below meth c D A nL Q pc lv (st) w := by
  subst hq
  intro H locs ls hP hD hS hl
  subst hv
  exact lv_ldc2 X.1.1 X.1.2.1 X.1.2.2.2.1 (X.1.2.2.2.2 _ hm) d (k H locs ls hP hD hS hl)
theorem z_iload_n {kk : Fin 4} {i : Nat} {x : Int32} (X : Cx p s m args meth c cc nL Ts own D E A) (d : decode cc pc = .ok (.iload_n kk, 1)) (hq : pc + 1 = pc') (k0 : Nat) (hk : lv[k0]? = some (i, .int x)) (hi : (kk : Nat) = i) (k : J p l e R s m args below meth c D A nL Q pc' lv (.int x :: st) w) : J p l e R s m args below meth c D A nL Q pc lv (st) w := by
  subst hq
  intro H locs ls hP hD hS hl
  exact lv_iload_n X.1.1 X.1.2.1 d hi (lv_at hl k0 hk) (k H locs ls hP hD hS hl)
theorem z_iload {i : Nat} {x : Int32} (X : Cx p s m args meth c cc nL Ts own D E A) (d : decode cc pc = .ok (.iload i, 2)) (hq : pc + 2 = pc') (k0 : Nat) (hk : lv[k0]? = some (i, .int x)) (k : J p l e R s m args below meth c D A nL Q pc' lv (.int x :: st) w) : J p l e R s m args below meth c D A nL Q pc lv (st) w := by
  subst hq
  intro H locs ls hP hD hS hl
  exact lv_iload X.1.1 X.1.2.1 d (lv_at hl k0 hk) (k H locs ls hP hD hS hl)
theorem z_lload_n {kk : Fin 4} {i : Nat} {x : Int64} (X : Cx p s m args meth c cc nL Ts own D E A) (d : decode cc pc = .ok (.lload_n kk, 1)) (hq : pc + 1 = pc') (k0 : Nat) (hk : lv[k0]? = some (i, .long x)) (hi : (kk : Nat) = i) (k : J p l e R s m args below meth c D A nL Q pc' lv (.long x :: st) w) : J p l e R s m args below meth c D A nL Q pc lv (st) w := by
  subst hq
  intro H locs ls hP hD hS hl
  exact lv_lload_n X.1.1 X.1.2.1 d hi (lv_at hl k0 hk) (k H locs ls hP hD hS hl)
theorem z_lload {i : Nat} {x : Int64} (X : Cx p s m args meth c cc nL Ts own D E A) (d : decode cc pc = .ok (.lload i, 2)) (hq : pc + 2 = pc') (k0 : Nat) (hk : lv[k0]? = some (i, .long x)) (k : J p l e R s m args below meth c D A nL Q pc' lv (.long x :: st) w) : J p l e R s m args below meth c D A nL Q pc lv (st) w := by
  subst hq
  intro H locs ls hP hD hS hl
  exact lv_lload X.1.1 X.1.2.1 d (lv_at hl k0 hk) (k H locs ls hP hD hS hl)
theorem z_aload_n {kk : Fin 4} {i : Nat} {x : Nat} (X : Cx p s m args meth c cc nL Ts own D E A) (d : decode cc pc = .ok (.aload_n kk, 1)) (hq : pc + 1 = pc') (k0 : Nat) (hk : lv[k0]? = some (i, .ref x)) (hi : (kk : Nat) = i) (k : J p l e R s m args below meth c D A nL Q pc' lv (.ref x :: st) w) : J p l e R s m args below meth c D A nL Q pc lv (st) w := by
  subst hq
  intro H locs ls hP hD hS hl
  exact lv_aload_n X.1.1 X.1.2.1 d hi (lv_at hl k0 hk) (k H locs ls hP hD hS hl)
theorem z_aload {i : Nat} {x : Nat} (X : Cx p s m args meth c cc nL Ts own D E A) (d : decode cc pc = .ok (.aload i, 2)) (hq : pc + 2 = pc') (k0 : Nat) (hk : lv[k0]? = some (i, .ref x)) (k : J p l e R s m args below meth c D A nL Q pc' lv (.ref x :: st) w) : J p l e R s m args below meth c D A nL Q pc lv (st) w := by
  subst hq
  intro H locs ls hP hD hS hl
  exact lv_aload X.1.1 X.1.2.1 d (lv_at hl k0 hk) (k H locs ls hP hD hS hl)
theorem z_istore_n {kk : Fin 4} {i : Nat} {x : Int32} (X : Cx p s m args meth c cc nL Ts own D E A) (d : decode cc pc = .ok (.istore_n kk, 1)) (hq : pc + 1 = pc') (hi : (kk : Nat) = i) (hn : i < nL) (hv : (i, Value.int x) :: lv.filter (fun q => !(q.1 == i) && !(q.1 + 1 == i && q.2.category == 2)) = lv') (k : J p l e R s m args below meth c D A nL Q pc' lv' (st) w) : J p l e R s m args below meth c D A nL Q pc lv (Value.int x :: st) w := by
  subst hq
  intro H locs ls hP hD hS hl
  exact lv_istore_n X.1.1 X.1.2.1 d hi hl hn hv (fun ls hl => k H locs ls hP hD hS hl)
theorem z_istore {i : Nat} {x : Int32} (X : Cx p s m args meth c cc nL Ts own D E A) (d : decode cc pc = .ok (.istore i, 2)) (hq : pc + 2 = pc') (hn : i < nL) (hv : (i, Value.int x) :: lv.filter (fun q => !(q.1 == i) && !(q.1 + 1 == i && q.2.category == 2)) = lv') (k : J p l e R s m args below meth c D A nL Q pc' lv' (st) w) : J p l e R s m args below meth c D A nL Q pc lv (Value.int x :: st) w := by
  subst hq
  intro H locs ls hP hD hS hl
  exact lv_istore X.1.1 X.1.2.1 d hl hn hv (fun ls hl => k H locs ls hP hD hS hl)
theorem z_lstore_n {kk : Fin 4} {i : Nat} {x : Int64} (X : Cx p s m args meth c cc nL Ts own D E A) (d : decode cc pc = .ok (.lstore_n kk, 1)) (hq : pc + 1 = pc') (hi : (kk : Nat) = i) (hn : i + 1 < nL) (hv : (i, Value.long x) :: lv.filter (fun q => !(q.1 == i) && (!(q.1 == i + 1) && !(q.1 + 1 == i && q.2.category == 2))) = lv') (k : J p l e R s m args below meth c D A nL Q pc' lv' (st) w) : J p l e R s m args below meth c D A nL Q pc lv (Value.long x :: st) w := by
  subst hq
  intro H locs ls hP hD hS hl
  exact lv_lstore_n X.1.1 X.1.2.1 d hi hl hn hv (fun ls hl => k H locs ls hP hD hS hl)
theorem z_lstore {i : Nat} {x : Int64} (X : Cx p s m args meth c cc nL Ts own D E A) (d : decode cc pc = .ok (.lstore i, 2)) (hq : pc + 2 = pc') (hn : i + 1 < nL) (hv : (i, Value.long x) :: lv.filter (fun q => !(q.1 == i) && (!(q.1 == i + 1) && !(q.1 + 1 == i && q.2.category == 2))) = lv') (k : J p l e R s m args below meth c D A nL Q pc' lv' (st) w) : J p l e R s m args below meth c D A nL Q pc lv (Value.long x :: st) w := by
  subst hq
  intro H locs ls hP hD hS hl
  exact lv_lstore X.1.1 X.1.2.1 d hl hn hv (fun ls hl => k H locs ls hP hD hS hl)
theorem z_astore_n {kk : Fin 4} {i : Nat} {x : Nat} (X : Cx p s m args meth c cc nL Ts own D E A) (d : decode cc pc = .ok (.astore_n kk, 1)) (hq : pc + 1 = pc') (hi : (kk : Nat) = i) (hn : i < nL) (hv : (i, Value.ref x) :: lv.filter (fun q => !(q.1 == i) && !(q.1 + 1 == i && q.2.category == 2)) = lv') (k : J p l e R s m args below meth c D A nL Q pc' lv' (st) w) : J p l e R s m args below meth c D A nL Q pc lv (Value.ref x :: st) w := by
  subst hq
  intro H locs ls hP hD hS hl
  exact lv_astore_n X.1.1 X.1.2.1 d hi hl hn hv (fun ls hl => k H locs ls hP hD hS hl)
theorem z_astore {i : Nat} {x : Nat} (X : Cx p s m args meth c cc nL Ts own D E A) (d : decode cc pc = .ok (.astore i, 2)) (hq : pc + 2 = pc') (hn : i < nL) (hv : (i, Value.ref x) :: lv.filter (fun q => !(q.1 == i) && !(q.1 + 1 == i && q.2.category == 2)) = lv') (k : J p l e R s m args below meth c D A nL Q pc' lv' (st) w) : J p l e R s m args below meth c D A nL Q pc lv (Value.ref x :: st) w := by
  subst hq
  intro H locs ls hP hD hS hl
  exact lv_astore X.1.1 X.1.2.1 d hl hn hv (fun ls hl => k H locs ls hP hD hS hl)
theorem z_iinc {i : Nat} {n x : Int} (X : Cx p s m args meth c cc nL Ts own D E A) (d : decode cc pc = .ok (.iinc i n, 3)) (hq : pc + 3 = pc') (k0 : Nat) (hk : lv[k0]? = some (i, .int (jI x))) (hn : i < nL) (hv : (i, Value.int (jI (x + n))) :: lv.filter (fun q => !(q.1 == i) && !(q.1 + 1 == i && q.2.category == 2)) = lv') (k : J p l e R s m args below meth c D A nL Q pc' lv' (st) w) : J p l e R s m args below meth c D A nL Q pc lv (st) w := by
  subst hq
  intro H locs ls hP hD hS hl
  exact lv_iinc X.1.1 X.1.2.1 d hl hk (jI_add x n) hn hv (fun ls hl => k H locs ls hP hD hS hl)
theorem z_iadd {a b : Int} (X : Cx p s m args meth c cc nL Ts own D E A) (d : decode cc pc = .ok (.iadd, 1)) (hq : pc + 1 = pc') (k : J p l e R s m args below meth c D A nL Q pc' lv (.int (jI (a + b)) :: st) w) : J p l e R s m args below meth c D A nL Q pc lv (.int (jI b) :: .int (jI a) :: st) w := by
  subst hq
  intro H locs ls hP hD hS hl
  exact lv_iadd X.1.1 X.1.2.1 d (by rw [jI_add]; exact k H locs ls hP hD hS hl)
theorem z_ladd {a b : Int} (X : Cx p s m args meth c cc nL Ts own D E A) (d : decode cc pc = .ok (.ladd, 1)) (hq : pc + 1 = pc') (k : J p l e R s m args below meth c D A nL Q pc' lv (.long (jL (a + b)) :: st) w) : J p l e R s m args below meth c D A nL Q pc lv (.long (jL b) :: .long (jL a) :: st) w := by
  subst hq
  intro H locs ls hP hD hS hl
  exact lv_ladd X.1.1 X.1.2.1 d (by rw [jL_add]; exact k H locs ls hP hD hS hl)
theorem z_isub {a b : Int} (X : Cx p s m args meth c cc nL Ts own D E A) (d : decode cc pc = .ok (.isub, 1)) (hq : pc + 1 = pc') (k : J p l e R s m args below meth c D A nL Q pc' lv (.int (jI (a - b)) :: st) w) : J p l e R s m args below meth c D A nL Q pc lv (.int (jI b) :: .int (jI a) :: st) w := by
  subst hq
  intro H locs ls hP hD hS hl
  exact lv_isub X.1.1 X.1.2.1 d (by rw [jI_sub]; exact k H locs ls hP hD hS hl)
theorem z_lsub {a b : Int} (X : Cx p s m args meth c cc nL Ts own D E A) (d : decode cc pc = .ok (.lsub, 1)) (hq : pc + 1 = pc') (k : J p l e R s m args below meth c D A nL Q pc' lv (.long (jL (a - b)) :: st) w) : J p l e R s m args below meth c D A nL Q pc lv (.long (jL b) :: .long (jL a) :: st) w := by
  subst hq
  intro H locs ls hP hD hS hl
  exact lv_lsub X.1.1 X.1.2.1 d (by rw [jL_sub]; exact k H locs ls hP hD hS hl)
theorem z_imul {a b : Int} (X : Cx p s m args meth c cc nL Ts own D E A) (d : decode cc pc = .ok (.imul, 1)) (hq : pc + 1 = pc') (k : J p l e R s m args below meth c D A nL Q pc' lv (.int (jI (a * b)) :: st) w) : J p l e R s m args below meth c D A nL Q pc lv (.int (jI b) :: .int (jI a) :: st) w := by
  subst hq
  intro H locs ls hP hD hS hl
  exact lv_imul X.1.1 X.1.2.1 d (by rw [jI_mul]; exact k H locs ls hP hD hS hl)
theorem z_lmul {a b : Int} (X : Cx p s m args meth c cc nL Ts own D E A) (d : decode cc pc = .ok (.lmul, 1)) (hq : pc + 1 = pc') (k : J p l e R s m args below meth c D A nL Q pc' lv (.long (jL (a * b)) :: st) w) : J p l e R s m args below meth c D A nL Q pc lv (.long (jL b) :: .long (jL a) :: st) w := by
  subst hq
  intro H locs ls hP hD hS hl
  exact lv_lmul X.1.1 X.1.2.1 d (by rw [jL_mul]; exact k H locs ls hP hD hS hl)
theorem z_ineg {a : Int} (X : Cx p s m args meth c cc nL Ts own D E A) (d : decode cc pc = .ok (.ineg, 1)) (hq : pc + 1 = pc') (k : J p l e R s m args below meth c D A nL Q pc' lv (.int (jI (-a)) :: st) w) : J p l e R s m args below meth c D A nL Q pc lv (.int (jI a) :: st) w := by
  subst hq
  intro H locs ls hP hD hS hl
  exact lv_ineg X.1.1 X.1.2.1 d (by rw [jI_neg]; exact k H locs ls hP hD hS hl)
theorem z_idiv {a b : Int} (X : Cx p s m args meth c cc nL Ts own D E A) (d : decode cc pc = .ok (.idiv, 1)) (hq : pc + 1 = pc') (hr : (0 ≤ a ∧ a < 2147483648) ∧ (0 < b ∧ b < 2147483648)) (k : J p l e R s m args below meth c D A nL Q pc' lv (.int (jI (a / b)) :: st) w) : J p l e R s m args below meth c D A nL Q pc lv (.int (jI b) :: .int (jI a) :: st) w := by
  subst hq
  intro H locs ls hP hD hS hl
  exact lv_idiv X.1.1 X.1.2.1 d (jI_ne0 hr.2) (by rw [jI_div hr]; exact k H locs ls hP hD hS hl)
theorem z_ldiv {a b : Int} (X : Cx p s m args meth c cc nL Ts own D E A) (d : decode cc pc = .ok (.ldiv, 1)) (hq : pc + 1 = pc') (hr : (0 ≤ a ∧ a < 9223372036854775808) ∧ (0 < b ∧ b < 9223372036854775808)) (k : J p l e R s m args below meth c D A nL Q pc' lv (.long (jL (a / b)) :: st) w) : J p l e R s m args below meth c D A nL Q pc lv (.long (jL b) :: .long (jL a) :: st) w := by
  subst hq
  intro H locs ls hP hD hS hl
  exact lv_ldiv X.1.1 X.1.2.1 d (jL_ne0 hr.2) (by rw [jL_div hr]; exact k H locs ls hP hD hS hl)
theorem z_irem {a b : Int} (X : Cx p s m args meth c cc nL Ts own D E A) (d : decode cc pc = .ok (.irem, 1)) (hq : pc + 1 = pc') (hr : (0 ≤ a ∧ a < 2147483648) ∧ (0 < b ∧ b < 2147483648)) (k : J p l e R s m args below meth c D A nL Q pc' lv (.int (jI (a % b)) :: st) w) : J p l e R s m args below meth c D A nL Q pc lv (.int (jI b) :: .int (jI a) :: st) w := by
  subst hq
  intro H locs ls hP hD hS hl
  exact lv_irem X.1.1 X.1.2.1 d (jI_ne0 hr.2) (by rw [jI_rem hr]; exact k H locs ls hP hD hS hl)
theorem z_lrem {a b : Int} (X : Cx p s m args meth c cc nL Ts own D E A) (d : decode cc pc = .ok (.lrem, 1)) (hq : pc + 1 = pc') (hr : (0 ≤ a ∧ a < 9223372036854775808) ∧ (0 < b ∧ b < 9223372036854775808)) (k : J p l e R s m args below meth c D A nL Q pc' lv (.long (jL (a % b)) :: st) w) : J p l e R s m args below meth c D A nL Q pc lv (.long (jL b) :: .long (jL a) :: st) w := by
  subst hq
  intro H locs ls hP hD hS hl
  exact lv_lrem X.1.1 X.1.2.1 d (jL_ne0 hr.2) (by rw [jL_rem hr]; exact k H locs ls hP hD hS hl)
theorem z_iand {a b : Int} (X : Cx p s m args meth c cc nL Ts own D E A) (d : decode cc pc = .ok (.iand, 1)) (hq : pc + 1 = pc') (hr : (0 ≤ a ∧ a < 2147483648) ∧ (0 ≤ b ∧ b < 2147483648)) (k : J p l e R s m args below meth c D A nL Q pc' lv (.int (jI (iAnd a b)) :: st) w) : J p l e R s m args below meth c D A nL Q pc lv (.int (jI b) :: .int (jI a) :: st) w := by
  subst hq
  intro H locs ls hP hD hS hl
  exact lv_iand X.1.1 X.1.2.1 d (by rw [jI_and hr.1 hr.2]; exact k H locs ls hP hD hS hl)
theorem z_ior {a b : Int} (X : Cx p s m args meth c cc nL Ts own D E A) (d : decode cc pc = .ok (.ior, 1)) (hq : pc + 1 = pc') (hr : (0 ≤ a ∧ a < 2147483648) ∧ (0 ≤ b ∧ b < 2147483648)) (k : J p l e R s m args below meth c D A nL Q pc' lv (.int (jI (iOr a b)) :: st) w) : J p l e R s m args below meth c D A nL Q pc lv (.int (jI b) :: .int (jI a) :: st) w := by
  subst hq
  intro H locs ls hP hD hS hl
  exact lv_ior X.1.1 X.1.2.1 d (by rw [jI_or hr.1 hr.2]; exact k H locs ls hP hD hS hl)
theorem z_ixor {a b : Int} (X : Cx p s m args meth c cc nL Ts own D E A) (d : decode cc pc = .ok (.ixor, 1)) (hq : pc + 1 = pc') (hr : (0 ≤ a ∧ a < 2147483648) ∧ (0 ≤ b ∧ b < 2147483648)) (k : J p l e R s m args below meth c D A nL Q pc' lv (.int (jI (iXor a b)) :: st) w) : J p l e R s m args below meth c D A nL Q pc lv (.int (jI b) :: .int (jI a) :: st) w := by
  subst hq
  intro H locs ls hP hD hS hl
  exact lv_ixor X.1.1 X.1.2.1 d (by rw [jI_xor hr.1 hr.2]; exact k H locs ls hP hD hS hl)
theorem z_ishl {a b : Int} (X : Cx p s m args meth c cc nL Ts own D E A) (d : decode cc pc = .ok (.ishl, 1)) (hq : pc + 1 = pc') (hr : (0 ≤ a ∧ a < 2147483648) ∧ (0 ≤ b ∧ b < 32)) (k : J p l e R s m args below meth c D A nL Q pc' lv (.int (jI (iShl a b)) :: st) w) : J p l e R s m args below meth c D A nL Q pc lv (.int (jI b) :: .int (jI a) :: st) w := by
  subst hq
  intro H locs ls hP hD hS hl
  exact lv_ishl X.1.1 X.1.2.1 d (by rw [jI_shl hr.1 hr.2]; exact k H locs ls hP hD hS hl)
theorem z_ishr {a b : Int} (X : Cx p s m args meth c cc nL Ts own D E A) (d : decode cc pc = .ok (.ishr, 1)) (hq : pc + 1 = pc') (hr : (0 ≤ a ∧ a < 2147483648) ∧ (0 ≤ b ∧ b < 32)) (k : J p l e R s m args below meth c D A nL Q pc' lv (.int (jI (iShr a b)) :: st) w) : J p l e R s m args below meth c D A nL Q pc lv (.int (jI b) :: .int (jI a) :: st) w := by
  subst hq
  intro H locs ls hP hD hS hl
  exact lv_ishr X.1.1 X.1.2.1 d (by rw [jI_shr hr.1 hr.2]; exact k H locs ls hP hD hS hl)
theorem z_i2l {a : Int} (X : Cx p s m args meth c cc nL Ts own D E A) (d : decode cc pc = .ok (.i2l, 1)) (hq : pc + 1 = pc') (hr : -2147483648 ≤ a ∧ a < 2147483648) (k : J p l e R s m args below meth c D A nL Q pc' lv (.long (jL a) :: st) w) : J p l e R s m args below meth c D A nL Q pc lv (.int (jI a) :: st) w := by
  subst hq
  intro H locs ls hP hD hS hl
  exact lv_i2l X.1.1 X.1.2.1 d (jI_l hr) (k H locs ls hP hD hS hl)
theorem z_l2i {a : Int} (X : Cx p s m args meth c cc nL Ts own D E A) (d : decode cc pc = .ok (.l2i, 1)) (hq : pc + 1 = pc') (k : J p l e R s m args below meth c D A nL Q pc' lv (.int (jI a) :: st) w) : J p l e R s m args below meth c D A nL Q pc lv (.long (jL a) :: st) w := by
  subst hq
  intro H locs ls hP hD hS hl
  exact lv_l2i X.1.1 X.1.2.1 d (jL_i a) (k H locs ls hP hD hS hl)
theorem z_dup {va : Value} (X : Cx p s m args meth c cc nL Ts own D E A) (d : decode cc pc = .ok (.dup, 1)) (hq : pc + 1 = pc') (hc : va.category = 1) (k : J p l e R s m args below meth c D A nL Q pc' lv (va :: va :: st) w) : J p l e R s m args below meth c D A nL Q pc lv (va :: st) w := by
  subst hq
  intro H locs ls hP hD hS hl
  exact lv_dup X.1.1 X.1.2.1 d hc (k H locs ls hP hD hS hl)
theorem z_dup2 {va vb : Value} (X : Cx p s m args meth c cc nL Ts own D E A) (d : decode cc pc = .ok (.dup2, 1)) (hq : pc + 1 = pc') (hc : va.category = 1 ∧ vb.category = 1) (k : J p l e R s m args below meth c D A nL Q pc' lv (va :: vb :: va :: vb :: st) w) : J p l e R s m args below meth c D A nL Q pc lv (va :: vb :: st) w := by
  subst hq
  intro H locs ls hP hD hS hl
  exact lv_dup2_11 X.1.1 X.1.2.1 d hc.1 hc.2 (k H locs ls hP hD hS hl)
theorem z_goto {off : Int} (X : Cx p s m args meth c cc nL Ts own D E A) (d : decode cc pc = .ok (.goto off, 3)) (ht : (pc : Int) + off = (tgt : Int)) (k : J p l e R s m args below meth c D A nL Q tgt lv (st) w) : J p l e R s m args below meth c D A nL Q pc lv (st) w := by
  intro H locs ls hP hD hS hl
  exact lv_goto X.1.1 X.1.2.1 d ht (k H locs ls hP hD hS hl)
theorem z_icmp_eq {a b off : Int} (X : Cx p s m args meth c cc nL Ts own D E A) (d : decode cc pc = .ok (.if_icmp .eq off, 3)) (ht : (pc : Int) + off = (tgt : Int)) (hq : pc + 3 = pc') (hr : (-2147483648 ≤ a ∧ a < 2147483648) ∧ (-2147483648 ≤ b ∧ b < 2147483648)) (kt : a = b → J p l e R s m args below meth c D A nL Q tgt lv (st) w) (kf : ¬ a = b → J p l e R s m args below meth c D A nL Q pc' lv (st) w) : J p l e R s m args below meth c D A nL Q pc lv (.int (jI b) :: .int (jI a) :: st) w := by
  subst hq
  intro H locs ls hP hD hS hl
  exact lv_icmp_eq X.1.1 X.1.2.1 d ht (fun h => kt ((jI_eq hr).mp h) H locs ls hP hD hS hl) (fun h => kf (fun q => h ((jI_eq hr).mpr q)) H locs ls hP hD hS hl)
theorem z_if_eq {a off : Int} (X : Cx p s m args meth c cc nL Ts own D E A) (d : decode cc pc = .ok (.ifCond .eq off, 3)) (ht : (pc : Int) + off = (tgt : Int)) (hq : pc + 3 = pc') (hr0 : -2147483648 ≤ a ∧ a < 2147483648) (kt : a = 0 → J p l e R s m args below meth c D A nL Q tgt lv (st) w) (kf : ¬ a = 0 → J p l e R s m args below meth c D A nL Q pc' lv (st) w) : J p l e R s m args below meth c D A nL Q pc lv (.int (jI a) :: st) w := by
  subst hq
  intro H locs ls hP hD hS hl
  have hr : (-2147483648 ≤ a ∧ a < 2147483648) ∧ (-2147483648 ≤ (0 : Int) ∧ (0 : Int) < 2147483648) := ⟨hr0, by omega⟩
  exact lv_if_eq X.1.1 X.1.2.1 d ht (fun h => kt ((jI_eq hr).mp h) H locs ls hP hD hS hl) (fun h => kf (fun q => h ((jI_eq hr).mpr q)) H locs ls hP hD hS hl)
theorem z_icmp_ne {a b off : Int} (X : Cx p s m args meth c cc nL Ts own D E A) (d : decode cc pc = .ok (.if_icmp .ne off, 3)) (ht : (pc : Int) + off = (tgt : Int)) (hq : pc + 3 = pc') (hr : (-2147483648 ≤ a ∧ a < 2147483648) ∧ (-2147483648 ≤ b ∧ b < 2147483648)) (kt : ¬ a = b → J p l e R s m args below meth c D A nL Q tgt lv (st) w) (kf : a = b → J p l e R s m args below meth c D A nL Q pc' lv (st) w) : J p l e R s m args below meth c D A nL Q pc lv (.int (jI b) :: .int (jI a) :: st) w := by
  subst hq
  intro H locs ls hP hD hS hl
  exact lv_icmp_ne X.1.1 X.1.2.1 d ht (fun h => kt (fun q => h ((jI_eq hr).mpr q)) H locs ls hP hD hS hl) (fun h => kf ((jI_eq hr).mp h) H locs ls hP hD hS hl)
theorem z_if_ne {a off : Int} (X : Cx p s m args meth c cc nL Ts own D E A) (d : decode cc pc = .ok (.ifCond .ne off, 3)) (ht : (pc : Int) + off = (tgt : Int)) (hq : pc + 3 = pc') (hr0 : -2147483648 ≤ a ∧ a < 2147483648) (kt : ¬ a = 0 → J p l e R s m args below meth c D A nL Q tgt lv (st) w) (kf : a = 0 → J p l e R s m args below meth c D A nL Q pc' lv (st) w) : J p l e R s m args below meth c D A nL Q pc lv (.int (jI a) :: st) w := by
  subst hq
  intro H locs ls hP hD hS hl
  have hr : (-2147483648 ≤ a ∧ a < 2147483648) ∧ (-2147483648 ≤ (0 : Int) ∧ (0 : Int) < 2147483648) := ⟨hr0, by omega⟩
  exact lv_if_ne X.1.1 X.1.2.1 d ht (fun h => kt (fun q => h ((jI_eq hr).mpr q)) H locs ls hP hD hS hl) (fun h => kf ((jI_eq hr).mp h) H locs ls hP hD hS hl)
theorem z_icmp_lt {a b off : Int} (X : Cx p s m args meth c cc nL Ts own D E A) (d : decode cc pc = .ok (.if_icmp .lt off, 3)) (ht : (pc : Int) + off = (tgt : Int)) (hq : pc + 3 = pc') (hr : (-2147483648 ≤ a ∧ a < 2147483648) ∧ (-2147483648 ≤ b ∧ b < 2147483648)) (kt : a < b → J p l e R s m args below meth c D A nL Q tgt lv (st) w) (kf : b ≤ a → J p l e R s m args below meth c D A nL Q pc' lv (st) w) : J p l e R s m args below meth c D A nL Q pc lv (.int (jI b) :: .int (jI a) :: st) w := by
  subst hq
  intro H locs ls hP hD hS hl
  exact lv_icmp_lt X.1.1 X.1.2.1 d ht (fun h => kt ((jI_lt hr).mp h) H locs ls hP hD hS hl) (fun h => kf (Int.not_lt.mp (fun q => h ((jI_lt hr).mpr q))) H locs ls hP hD hS hl)
theorem z_if_lt {a off : Int} (X : Cx p s m args meth c cc nL Ts own D E A) (d : decode cc pc = .ok (.ifCond .lt off, 3)) (ht : (pc : Int) + off = (tgt : Int)) (hq : pc + 3 = pc') (hr0 : -2147483648 ≤ a ∧ a < 2147483648) (kt : a < 0 → J p l e R s m args below meth c D A nL Q tgt lv (st) w) (kf : 0 ≤ a → J p l e R s m args below meth c D A nL Q pc' lv (st) w) : J p l e R s m args below meth c D A nL Q pc lv (.int (jI a) :: st) w := by
  subst hq
  intro H locs ls hP hD hS hl
  have hr : (-2147483648 ≤ a ∧ a < 2147483648) ∧ (-2147483648 ≤ (0 : Int) ∧ (0 : Int) < 2147483648) := ⟨hr0, by omega⟩
  exact lv_if_lt X.1.1 X.1.2.1 d ht (fun h => kt ((jI_lt hr).mp h) H locs ls hP hD hS hl) (fun h => kf (Int.not_lt.mp (fun q => h ((jI_lt hr).mpr q))) H locs ls hP hD hS hl)
theorem z_icmp_ge {a b off : Int} (X : Cx p s m args meth c cc nL Ts own D E A) (d : decode cc pc = .ok (.if_icmp .ge off, 3)) (ht : (pc : Int) + off = (tgt : Int)) (hq : pc + 3 = pc') (hr : (-2147483648 ≤ a ∧ a < 2147483648) ∧ (-2147483648 ≤ b ∧ b < 2147483648)) (kt : b ≤ a → J p l e R s m args below meth c D A nL Q tgt lv (st) w) (kf : a < b → J p l e R s m args below meth c D A nL Q pc' lv (st) w) : J p l e R s m args below meth c D A nL Q pc lv (.int (jI b) :: .int (jI a) :: st) w := by
  subst hq
  intro H locs ls hP hD hS hl
  exact lv_icmp_ge X.1.1 X.1.2.1 d ht (fun h => kt ((jI_le ⟨hr.2, hr.1⟩).mp h) H locs ls hP hD hS hl) (fun h => kf (Int.not_le.mp (fun q => h ((jI_le ⟨hr.2, hr.1⟩).mpr q))) H locs ls hP hD hS hl)
theorem z_if_ge {a off : Int} (X : Cx p s m args meth c cc nL Ts own D E A) (d : decode cc pc = .ok (.ifCond .ge off, 3)) (ht : (pc : Int) + off = (tgt : Int)) (hq : pc + 3 = pc') (hr0 : -2147483648 ≤ a ∧ a < 2147483648) (kt : 0 ≤ a → J p l e R s m args below meth c D A nL Q tgt lv (st) w) (kf : a < 0 → J p l e R s m args below meth c D A nL Q pc' lv (st) w) : J p l e R s m args below meth c D A nL Q pc lv (.int (jI a) :: st) w := by
  subst hq
  intro H locs ls hP hD hS hl
  have hr : (-2147483648 ≤ a ∧ a < 2147483648) ∧ (-2147483648 ≤ (0 : Int) ∧ (0 : Int) < 2147483648) := ⟨hr0, by omega⟩
  exact lv_if_ge X.1.1 X.1.2.1 d ht (fun h => kt ((jI_le ⟨hr.2, hr.1⟩).mp h) H locs ls hP hD hS hl) (fun h => kf (Int.not_le.mp (fun q => h ((jI_le ⟨hr.2, hr.1⟩).mpr q))) H locs ls hP hD hS hl)
theorem z_icmp_gt {a b off : Int} (X : Cx p s m args meth c cc nL Ts own D E A) (d : decode cc pc = .ok (.if_icmp .gt off, 3)) (ht : (pc : Int) + off = (tgt : Int)) (hq : pc + 3 = pc') (hr : (-2147483648 ≤ a ∧ a < 2147483648) ∧ (-2147483648 ≤ b ∧ b < 2147483648)) (kt : b < a → J p l e R s m args below meth c D A nL Q tgt lv (st) w) (kf : a ≤ b → J p l e R s m args below meth c D A nL Q pc' lv (st) w) : J p l e R s m args below meth c D A nL Q pc lv (.int (jI b) :: .int (jI a) :: st) w := by
  subst hq
  intro H locs ls hP hD hS hl
  exact lv_icmp_gt X.1.1 X.1.2.1 d ht (fun h => kt ((jI_lt ⟨hr.2, hr.1⟩).mp h) H locs ls hP hD hS hl) (fun h => kf (Int.not_lt.mp (fun q => h ((jI_lt ⟨hr.2, hr.1⟩).mpr q))) H locs ls hP hD hS hl)
theorem z_if_gt {a off : Int} (X : Cx p s m args meth c cc nL Ts own D E A) (d : decode cc pc = .ok (.ifCond .gt off, 3)) (ht : (pc : Int) + off = (tgt : Int)) (hq : pc + 3 = pc') (hr0 : -2147483648 ≤ a ∧ a < 2147483648) (kt : 0 < a → J p l e R s m args below meth c D A nL Q tgt lv (st) w) (kf : a ≤ 0 → J p l e R s m args below meth c D A nL Q pc' lv (st) w) : J p l e R s m args below meth c D A nL Q pc lv (.int (jI a) :: st) w := by
  subst hq
  intro H locs ls hP hD hS hl
  have hr : (-2147483648 ≤ a ∧ a < 2147483648) ∧ (-2147483648 ≤ (0 : Int) ∧ (0 : Int) < 2147483648) := ⟨hr0, by omega⟩
  exact lv_if_gt X.1.1 X.1.2.1 d ht (fun h => kt ((jI_lt ⟨hr.2, hr.1⟩).mp h) H locs ls hP hD hS hl) (fun h => kf (Int.not_lt.mp (fun q => h ((jI_lt ⟨hr.2, hr.1⟩).mpr q))) H locs ls hP hD hS hl)
theorem z_icmp_le {a b off : Int} (X : Cx p s m args meth c cc nL Ts own D E A) (d : decode cc pc = .ok (.if_icmp .le off, 3)) (ht : (pc : Int) + off = (tgt : Int)) (hq : pc + 3 = pc') (hr : (-2147483648 ≤ a ∧ a < 2147483648) ∧ (-2147483648 ≤ b ∧ b < 2147483648)) (kt : a ≤ b → J p l e R s m args below meth c D A nL Q tgt lv (st) w) (kf : b < a → J p l e R s m args below meth c D A nL Q pc' lv (st) w) : J p l e R s m args below meth c D A nL Q pc lv (.int (jI b) :: .int (jI a) :: st) w := by
  subst hq
  intro H locs ls hP hD hS hl
  exact lv_icmp_le X.1.1 X.1.2.1 d ht (fun h => kt ((jI_le hr).mp h) H locs ls hP hD hS hl) (fun h => kf (Int.not_le.mp (fun q => h ((jI_le hr).mpr q))) H locs ls hP hD hS hl)
theorem z_if_le {a off : Int} (X : Cx p s m args meth c cc nL Ts own D E A) (d : decode cc pc = .ok (.ifCond .le off, 3)) (ht : (pc : Int) + off = (tgt : Int)) (hq : pc + 3 = pc') (hr0 : -2147483648 ≤ a ∧ a < 2147483648) (kt : a ≤ 0 → J p l e R s m args below meth c D A nL Q tgt lv (st) w) (kf : 0 < a → J p l e R s m args below meth c D A nL Q pc' lv (st) w) : J p l e R s m args below meth c D A nL Q pc lv (.int (jI a) :: st) w := by
  subst hq
  intro H locs ls hP hD hS hl
  have hr : (-2147483648 ≤ a ∧ a < 2147483648) ∧ (-2147483648 ≤ (0 : Int) ∧ (0 : Int) < 2147483648) := ⟨hr0, by omega⟩
  exact lv_if_le X.1.1 X.1.2.1 d ht (fun h => kt ((jI_le hr).mp h) H locs ls hP hD hS hl) (fun h => kf (Int.not_le.mp (fun q => h ((jI_le hr).mpr q))) H locs ls hP hD hS hl)
theorem z_cmp3 {a b : Int} (hr : (-9223372036854775808 ≤ a ∧ a < 9223372036854775808) ∧ (-9223372036854775808 ≤ b ∧ b < 9223372036854775808)) : (lg_cmp (jL a) (jL b) = 1 ∧ b < a) ∨ (lg_cmp (jL a) (jL b) = 0 ∧ a = b) ∨ (lg_cmp (jL a) (jL b) = -1 ∧ a < b) := by
  unfold lg_cmp
  by_cases h1 : jL a > jL b
  · left
    exact ⟨if_pos h1, (jL_lt ⟨hr.2, hr.1⟩).mp h1⟩
  · rw [if_neg h1]
    by_cases h2 : jL a = jL b
    · right; left
      exact ⟨if_pos h2, (jL_eq hr).mp h2⟩
    · right; right
      rw [if_neg h2]
      refine ⟨rfl, ?_⟩
      have h3 : ¬ b < a := fun q => h1 ((jL_lt ⟨hr.2, hr.1⟩).mpr q)
      have h4 : ¬ a = b := fun q => h2 ((jL_eq hr).mpr q)
      omega
theorem z_lcmp_eq {a b off : Int} {pc1 : Nat} (X : Cx p s m args meth c cc nL Ts own D E A) (d1 : decode cc pc = .ok (.lcmp, 1)) (hq1 : pc + 1 = pc1) (d : decode cc pc1 = .ok (.ifCond .eq off, 3)) (ht : (pc1 : Int) + off = (tgt : Int)) (hq : pc1 + 3 = pc') (hr : (-9223372036854775808 ≤ a ∧ a < 9223372036854775808) ∧ (-9223372036854775808 ≤ b ∧ b < 9223372036854775808)) (kt : a = b → J p l e R s m args below meth c D A nL Q tgt lv (st) w) (kf : ¬ a = b → J p l e R s m args below meth c D A nL Q pc' lv (st) w) : J p l e R s m args below meth c D A nL Q pc lv (.long (jL b) :: .long (jL a) :: st) w := by
  subst hq
  subst hq1
  intro H locs ls hP hD hS hl
  refine W.lcmp X.1.1 X.1.2.1 d1 ?_
  rcases z_cmp3 hr with ⟨hc, h9⟩ | ⟨hc, h9⟩ | ⟨hc, h9⟩
  · rw [hc]
    exact lv_if_eq X.1.1 X.1.2.1 d ht (fun h => kt (by first | omega | (exact absurd h (by decide))) H locs ls hP hD hS hl) (fun h => kf (by first | omega | (exact absurd h (by decide)) | (exact absurd rfl h) | (exact absurd (by decide) h)) H locs ls hP hD hS hl)
  · rw [hc]
    exact lv_if_eq X.1.1 X.1.2.1 d ht (fun h => kt (by first | omega | (exact absurd h (by decide)) | (exact absurd rfl h)) H locs ls hP hD hS hl) (fun h => kf (by first | omega | (exact absurd h (by decide)) | (exact absurd rfl h) | (exact absurd (by decide) h)) H locs ls hP hD hS hl)
  · rw [hc]
    exact lv_if_eq X.1.1 X.1.2.1 d ht (fun h => kt (by first | omega | (exact absurd h (by decide))) H locs ls hP hD hS hl) (fun h => kf (by first | omega | (exact absurd h (by decide)) | (exact absurd rfl h) | (exact absurd (by decide) h)) H locs ls hP hD hS hl)
theorem z_lcmp_ne {a b off : Int} {pc1 : Nat} (X : Cx p s m args meth c cc nL Ts own D E A) (d1 : decode cc pc = .ok (.lcmp, 1)) (hq1 : pc + 1 = pc1) (d : decode cc pc1 = .ok (.ifCond .ne off, 3)) (ht : (pc1 : Int) + off = (tgt : Int)) (hq : pc1 + 3 = pc') (hr : (-9223372036854775808 ≤ a ∧ a < 9223372036854775808) ∧ (-9223372036854775808 ≤ b ∧ b < 9223372036854775808)) (kt : ¬ a = b → J p l e R s m args below meth c D A nL Q tgt lv (st) w) (kf : a = b → J p l e R s m args below meth c D A nL Q pc' lv (st) w) : J p l e R s m args below meth c D A nL Q pc lv (.long (jL b) :: .long (jL a) :: st) w := by
  subst hq
  subst hq1
  intro H locs ls hP hD hS hl
  refine W.lcmp X.1.1 X.1.2.1 d1 ?_
  rcases z_cmp3 hr with ⟨hc, h9⟩ | ⟨hc, h9⟩ | ⟨hc, h9⟩
  · rw [hc]
    exact lv_if_ne X.1.1 X.1.2.1 d ht (fun h => kt (by first | omega | (exact absurd h (by decide))) H locs ls hP hD hS hl) (fun h => kf (by first | omega | (exact absurd h (by decide)) | (exact absurd rfl h) | (exact absurd (by decide) h)) H locs ls hP hD hS hl)
  · rw [hc]
    exact lv_if_ne X.1.1 X.1.2.1 d ht (fun h => kt (by first | omega | (exact absurd h (by decide)) | (exact absurd rfl h)) H locs ls hP hD hS hl) (fun h => kf (by first | omega | (exact absurd h (by decide)) | (exact absurd rfl h) | (exact absurd (by decide) h)) H locs ls hP hD hS hl)
  · rw [hc]
    exact lv_if_ne X.1.1 X.1.2.1 d ht (fun h => kt (by first | omega | (exact absurd h (by decide))) H locs ls hP hD hS hl) (fun h => kf (by first | omega | (exact absurd h (by decide)) | (exact absurd rfl h) | (exact absurd (by decide) h)) H locs ls hP hD hS hl)
theorem z_lcmp_lt {a b off : Int} {pc1 : Nat} (X : Cx p s m args meth c cc nL Ts own D E A) (d1 : decode cc pc = .ok (.lcmp, 1)) (hq1 : pc + 1 = pc1) (d : decode cc pc1 = .ok (.ifCond .lt off, 3)) (ht : (pc1 : Int) + off = (tgt : Int)) (hq : pc1 + 3 = pc') (hr : (-9223372036854775808 ≤ a ∧ a < 9223372036854775808) ∧ (-9223372036854775808 ≤ b ∧ b < 9223372036854775808)) (kt : a < b → J p l e R s m args below meth c D A nL Q tgt lv (st) w) (kf : b ≤ a → J p l e R s m args below meth c D A nL Q pc' lv (st) w) : J p l e R s m args below meth c D A nL Q pc lv (.long (jL b) :: .long (jL a) :: st) w := by
  subst hq
  subst hq1
  intro H locs ls hP hD hS hl
  refine W.lcmp X.1.1 X.1.2.1 d1 ?_
  rcases z_cmp3 hr with ⟨hc, h9⟩ | ⟨hc, h9⟩ | ⟨hc, h9⟩
  · rw [hc]
    exact lv_if_lt X.1.1 X.1.2.1 d ht (fun h => kt (by first | omega | (exact absurd h (by decide))) H locs ls hP hD hS hl) (fun h => kf (by first | omega | (exact absurd h (by decide)) | (exact absurd rfl h) | (exact absurd (by decide) h)) H locs ls hP hD hS hl)
  · rw [hc]
    exact lv_if_lt X.1.1 X.1.2.1 d ht (fun h => kt (by first | omega | (exact absurd h (by decide)) | (exact absurd rfl h)) H locs ls hP hD hS hl) (fun h => kf (by first | omega | (exact absurd h (by decide)) | (exact absurd rfl h) | (exact absurd (by decide) h)) H locs ls hP hD hS hl)
  · rw [hc]
    exact lv_if_lt X.1.1 X.1.2.1 d ht (fun h => kt (by first | omega | (exact absurd h (by decide))) H locs ls hP hD hS hl) (fun h => kf (by first | omega | (exact absurd h (by decide)) | (exact absurd rfl h) | (exact absurd (by decide) h)) H locs ls hP hD hS hl)
theorem z_lcmp_ge {a b off : Int} {pc1 : Nat} (X : Cx p s m args meth c cc nL Ts own D E A) (d1 : decode cc pc = .ok (.lcmp, 1)) (hq1 : pc + 1 = pc1) (d : decode cc pc1 = .ok (.ifCond .ge off, 3)) (ht : (pc1 : Int) + off = (tgt : Int)) (hq : pc1 + 3 = pc') (hr : (-9223372036854775808 ≤ a ∧ a < 9223372036854775808) ∧ (-9223372036854775808 ≤ b ∧ b < 9223372036854775808)) (kt : b ≤ a → J p l e R s m args below meth c D A nL Q tgt lv (st) w) (kf : a < b → J p l e R s m args below meth c D A nL Q pc' lv (st) w) : J p l e R s m args below meth c D A nL Q pc lv (.long (jL b) :: .long (jL a) :: st) w := by
  subst hq
  subst hq1
  intro H locs ls hP hD hS hl
  refine W.lcmp X.1.1 X.1.2.1 d1 ?_
  rcases z_cmp3 hr with ⟨hc, h9⟩ | ⟨hc, h9⟩ | ⟨hc, h9⟩
  · rw [hc]
    exact lv_if_ge X.1.1 X.1.2.1 d ht (fun h => kt (by first | omega | (exact absurd h (by decide))) H locs ls hP hD hS hl) (fun h => kf (by first | omega | (exact absurd h (by decide)) | (exact absurd rfl h) | (exact absurd (by decide) h)) H locs ls hP hD hS hl)
  · rw [hc]
    exact lv_if_ge X.1.1 X.1.2.1 d ht (fun h => kt (by first | omega | (exact absurd h (by decide)) | (exact absurd rfl h)) H locs ls hP hD hS hl) (fun h => kf (by first | omega | (exact absurd h (by decide)) | (exact absurd rfl h) | (exact absurd (by decide) h)) H locs ls hP hD hS hl)
  · rw [hc]
    exact lv_if_ge X.1.1 X.1.2.1 d ht (fun h => kt (by first | omega | (exact absurd h (by decide))) H locs ls hP hD hS hl) (fun h => kf (by first | omega | (exact absurd h (by decide)) | (exact absurd rfl h) | (exact absurd (by decide) h)) H locs ls hP hD hS hl)
theorem z_lcmp_gt {a b off : Int} {pc1 : Nat} (X : Cx p s m args meth c cc nL Ts own D E A) (d1 : decode cc pc = .ok (.lcmp, 1)) (hq1 : pc + 1 = pc1) (d : decode cc pc1 = .ok (.ifCond .gt off, 3)) (ht : (pc1 : Int) + off = (tgt : Int)) (hq : pc1 + 3 = pc') (hr : (-9223372036854775808 ≤ a ∧ a < 9223372036854775808) ∧ (-9223372036854775808 ≤ b ∧ b < 9223372036854775808)) (kt : b < a → J p l e R s m args below meth c D A nL Q tgt lv (st) w) (kf : a ≤ b → J p l e R s m args below meth c D A nL Q pc' lv (st) w) : J p l e R s m args below meth c D A nL Q pc lv (.long (jL b) :: .long (jL a) :: st) w := by
  subst hq
  subst hq1
  intro H locs ls hP hD hS hl
  refine W.lcmp X.1.1 X.1.2.1 d1 ?_
  rcases z_cmp3 hr with ⟨hc, h9⟩ | ⟨hc, h9⟩ | ⟨hc, h9⟩
  · rw [hc]
    exact lv_if_gt X.1.1 X.1.2.1 d ht (fun h => kt (by first | omega | (exact absurd h (by decide))) H locs ls hP hD hS hl) (fun h => kf (by first | omega | (exact absurd h (by decide)) | (exact absurd rfl h) | (exact absurd (by decide) h)) H locs ls hP hD hS hl)
  · rw [hc]
    exact lv_if_gt X.1.1 X.1.2.1 d ht (fun h => kt (by first | omega | (exact absurd h (by decide)) | (exact absurd rfl h)) H locs ls hP hD hS hl) (fun h => kf (by first | omega | (exact absurd h (by decide)) | (exact absurd rfl h) | (exact absurd (by decide) h)) H locs ls hP hD hS hl)
  · rw [hc]
    exact lv_if_gt X.1.1 X.1.2.1 d ht (fun h => kt (by first | omega | (exact absurd h (by decide))) H locs ls hP hD hS hl) (fun h => kf (by first | omega | (exact absurd h (by decide)) | (exact absurd rfl h) | (exact absurd (by decide) h)) H locs ls hP hD hS hl)
theorem z_lcmp_le {a b off : Int} {pc1 : Nat} (X : Cx p s m args meth c cc nL Ts own D E A) (d1 : decode cc pc = .ok (.lcmp, 1)) (hq1 : pc + 1 = pc1) (d : decode cc pc1 = .ok (.ifCond .le off, 3)) (ht : (pc1 : Int) + off = (tgt : Int)) (hq : pc1 + 3 = pc') (hr : (-9223372036854775808 ≤ a ∧ a < 9223372036854775808) ∧ (-9223372036854775808 ≤ b ∧ b < 9223372036854775808)) (kt : a ≤ b → J p l e R s m args below meth c D A nL Q tgt lv (st) w) (kf : b < a → J p l e R s m args below meth c D A nL Q pc' lv (st) w) : J p l e R s m args below meth c D A nL Q pc lv (.long (jL b) :: .long (jL a) :: st) w := by
  subst hq
  subst hq1
  intro H locs ls hP hD hS hl
  refine W.lcmp X.1.1 X.1.2.1 d1 ?_
  rcases z_cmp3 hr with ⟨hc, h9⟩ | ⟨hc, h9⟩ | ⟨hc, h9⟩
  · rw [hc]
    exact lv_if_le X.1.1 X.1.2.1 d ht (fun h => kt (by first | omega | (exact absurd h (by decide))) H locs ls hP hD hS hl) (fun h => kf (by first | omega | (exact absurd h (by decide)) | (exact absurd rfl h) | (exact absurd (by decide) h)) H locs ls hP hD hS hl)
  · rw [hc]
    exact lv_if_le X.1.1 X.1.2.1 d ht (fun h => kt (by first | omega | (exact absurd h (by decide)) | (exact absurd rfl h)) H locs ls hP hD hS hl) (fun h => kf (by first | omega | (exact absurd h (by decide)) | (exact absurd rfl h) | (exact absurd (by decide) h)) H locs ls hP hD hS hl)
  · rw [hc]
    exact lv_if_le X.1.1 X.1.2.1 d ht (fun h => kt (by first | omega | (exact absurd h (by decide))) H locs ls hP hD hS hl) (fun h => kf (by first | omega | (exact absurd h (by decide)) | (exact absurd rfl h) | (exact absurd (by decide) h)) H locs ls hP hD hS hl)
theorem z_get {C ref : String} {T : u_T} {N ci index a : Nat} {v : Value} {fs : List Value} (X : Cx p s m args meth c cc nL Ts own D E A) (d : decode cc pc = .ok (.getfield index, 3)) (hq : pc + 3 = pc') (hin : ∀ x ∈ u_ws C T N, x ∈ Ts) (q0 : Nat) (he : w[q0]? = some (a, .inr (ci, fs))) (hc : vwCl[ci]? = some (C, T, N)) (f : Nat) (hf : f < N) (hm : Cond.fieldLink own index ref (T f).2.1 (T f).2.2.1 ∈ Ts) (hs : (T f).1 = ref) (hv : fs[f]? = some v) (k : J p l e R s m args below meth c D A nL Q pc' lv (v :: st) w) : J p l e R s m args below meth c D A nL Q pc lv (.ref a :: st) w := by
  subst hq
  intro H locs ls hP hD hS hl
  exact va_get X.1.1 X.1.2.1 X.1.2.2.2.2 hin X.1.2.2.2.1 X.2.1 hP q0 he hc f hf (X.1.2.2.2.2 _ hm) (fun x h => by rw [← hs]; exact h) hv d (k H locs ls hP hD hS hl)
theorem z_put {C ref : String} {T : u_T} {N ci index a : Nat} {v : Value} {fs : List Value} {w' : va_W} {ty : FieldType} (X : Cx p s m args meth c cc nL Ts own D E A) (d : decode cc pc = .ok (.putfield index, 3)) (hq : pc + 3 = pc') (hin : ∀ x ∈ u_ws C T N, x ∈ Ts) (ty0 : Nat → FieldType) (hty : ∀ k, k < N → parseFieldDescriptor (T k).2.2.1 = some (ty0 k)) (hnm : ∀ a, a < N → ∀ b, b < N → a ≠ b → (T a).2.1 ≠ (T b).2.1) (q0 : Nat) (he : w[q0]? = some (a, .inr (ci, fs))) (hc : vwCl[ci]? = some (C, T, N)) (f : Nat) (hf : f < N) (hm : Cond.fieldLink own index ref (T f).2.1 (T f).2.2.1 ∈ Ts) (hs : (T f).1 = ref) (hfin : (T f).2.2.2 = false) (hd : parseFieldDescriptor (T f).2.2.1 = some ty) (hn : narrow ty v = v) (hfit : fits ty v = true) (hl0 : f < fs.length) (hw : w.set q0 (a, .inr (ci, fs.set f v)) = w') (k : J p l e R s m args below meth c D A nL Q pc' lv (st) w') : J p l e R s m args below meth c D A nL Q pc lv (v :: .ref a :: st) w := by
  subst hq
  subst hw
  intro H locs ls hP hD hS hl
  exact va_put X.1.1 X.1.2.1 X.1.2.2.2.2 hin ty0 hty hnm X.1.2.2.2.1 X.2.1 hP hD hS q0 he hc f hf (X.1.2.2.2.2 _ hm) (fun x h => by rw [← hs]; exact h) hfin hd hn hfit hl0 d (fun H locs hP hD hS => k H locs ls hP hD hS hl)
theorem z_iald {a n : Nat} {i : Int} {f : Int → Int} (X : Cx p s m args meth c cc nL Ts own D E A) (d : decode cc pc = .ok (.iaload, 1)) (hq : pc + 1 = pc') (q0 : Nat) (ha : w[q0]? = some (a, .inl (E 0, n, .inl (fun j : Nat => jI (f j))))) (hn : n < 2147483648) (hi : 0 ≤ i ∧ i < (n : Int)) (k : J p l e R s m args below meth c D A nL Q pc' lv (.int (jI (f i)) :: st) w) : J p l e R s m args below meth c D A nL Q pc lv (.int (jI i) :: .ref a :: st) w := by
  subst hq
  intro H locs ls hP hD hS hl
  refine va_iald X.1.1 X.1.2.1 X.2.1 hP q0 0 ha rfl (jI_in hi hn) d ?_
  have e1 : (((jI i).toNatClampNeg : Nat) : Int) = i := by rw [jI_clamp (by omega) (by omega)]; omega
  rw [e1]
  exact k H locs ls hP hD hS hl
theorem z_zald {a n : Nat} {i : Int} {f : Int → Int} (X : Cx p s m args meth c cc nL Ts own D E A) (d : decode cc pc = .ok (.baload, 1)) (hq : pc + 1 = pc') (q0 : Nat) (ha : w[q0]? = some (a, .inl (E 2, n, .inl (fun j : Nat => jI (f j))))) (hn : n < 2147483648) (hi : 0 ≤ i ∧ i < (n : Int)) (k : J p l e R s m args below meth c D A nL Q pc' lv (.int (jI (f i)) :: st) w) : J p l e R s m args below meth c D A nL Q pc lv (.int (jI i) :: .ref a :: st) w := by
  subst hq
  intro H locs ls hP hD hS hl
  refine va_zald X.1.1 X.1.2.1 X.2.1 hP q0 2 ha rfl (jI_in hi hn) d ?_
  have e1 : (((jI i).toNatClampNeg : Nat) : Int) = i := by rw [jI_clamp (by omega) (by omega)]; omega
  rw [e1]
  exact k H locs ls hP hD hS hl
theorem z_lald {a n : Nat} {i : Int} {f : Int → Int} (X : Cx p s m args meth c cc nL Ts own D E A) (d : decode cc pc = .ok (.laload, 1)) (hq : pc + 1 = pc') (q0 : Nat) (ha : w[q0]? = some (a, .inl (E 1, n, .inr (.inl (fun j : Nat => jL (f j)))))) (hn : n < 2147483648) (hi : 0 ≤ i ∧ i < (n : Int)) (k : J p l e R s m args below meth c D A nL Q pc' lv (.long (jL (f i)) :: st) w) : J p l e R s m args below meth c D A nL Q pc lv (.int (jI i) :: .ref a :: st) w := by
  subst hq
  intro H locs ls hP hD hS hl
  refine va_lald X.1.1 X.1.2.1 X.2.1 hP q0 1 ha rfl (jI_in hi hn) d ?_
  have e1 : (((jI i).toNatClampNeg : Nat) : Int) = i := by rw [jI_clamp (by omega) (by omega)]; omega
  rw [e1]
  exact k H locs ls hP hD hS hl
theorem z_aald {a n b : Nat} {i : Int} {f : Nat → Option Nat} (X : Cx p s m args meth c cc nL Ts own D E A) (d : decode cc pc = .ok (.aaload, 1)) (hq : pc + 1 = pc') (q0 : Nat) (ha : w[q0]? = some (a, .inl (E 3, n, .inr (.inr (.inr (.inr f)))))) (hn : n < 2147483648) (hi : 0 ≤ i ∧ i < (n : Int)) (hb : f i.toNat = some b) (k : J p l e R s m args below meth c D A nL Q pc' lv (.ref b :: st) w) : J p l e R s m args below meth c D A nL Q pc lv (.int (jI i) :: .ref a :: st) w := by
  subst hq
  intro H locs ls hP hD hS hl
  have hin := jI_in hi hn
  have hlt : (jI i).toNatClampNeg < n := Nat.not_le.mp fun q => hin (Or.inr q)
  have e1 : (jI i).toNatClampNeg = i.toNat := jI_clamp (by omega) (by omega)
  refine W.aald (v := .ref b) (ty := .array .int) X.1.1 X.1.2.1 (hP q0 _ ha) ((X.2.1.2 3 _ rfl).1 n (fun j => va_rf (f j))) rfl (fun q => by cases q) (by show ¬ (jI i < 0 ∨ (arrV _ _ _).slots.size ≤ _); rw [arrV_size]; exact hin) (by show (arrV _ _ _).slots[_]? = _; rw [arrV_read _ _ hlt, e1, hb]; rfl) rfl rfl d (k H locs ls hP hD hS hl)
theorem z_iast {a n : Nat} {i x : Int} {f : Int → Int} {w' : va_W} (X : Cx p s m args meth c cc nL Ts own D E A) (d : decode cc pc = .ok (.iastore, 1)) (hq : pc + 1 = pc') (q0 : Nat) (ha : w[q0]? = some (a, .inl (E 0, n, .inl (fun j : Nat => jI (f j))))) (hn : n < 2147483648) (hi : 0 ≤ i ∧ i < (n : Int)) (hw : w.set q0 (a, .inl (E 0, n, .inl (fun j : Nat => jI (if (j : Int) = i then x else f j)))) = w') (k : J p l e R s m args below meth c D A nL Q pc' lv (st) w') : J p l e R s m args below meth c D A nL Q pc lv (.int (jI x) :: .int (jI i) :: .ref a :: st) w := by
  subst hq
  subst hw
  intro H locs ls hP hD hS hl
  refine va_iast X.1.1 X.1.2.1 X.2.1 hP hD hS q0 0 ha rfl (jI_in hi hn) d (fun H locs hP hD hS => ?_)
  rw [jI_upd hi hn] at hP hD
  exact k H locs ls hP hD hS hl
theorem z_zast {a n : Nat} {i x : Int} {f : Int → Int} {w' : va_W} (X : Cx p s m args meth c cc nL Ts own D E A) (d : decode cc pc = .ok (.bastore, 1)) (hq : pc + 1 = pc') (q0 : Nat) (ha : w[q0]? = some (a, .inl (E 2, n, .inl (fun j : Nat => jI (f j))))) (hn : n < 2147483648) (hi : 0 ≤ i ∧ i < (n : Int)) (hx : x = 0 ∨ x = 1) (hw : w.set q0 (a, .inl (E 2, n, .inl (fun j : Nat => jI (if (j : Int) = i then x else f j)))) = w') (k : J p l e R s m args below meth c D A nL Q pc' lv (st) w') : J p l e R s m args below meth c D A nL Q pc lv (.int (jI x) :: .int (jI i) :: .ref a :: st) w := by
  subst hq
  subst hw
  intro H locs ls hP hD hS hl
  refine va_zast X.1.1 X.1.2.1 X.2.1 hP hD hS q0 2 ha rfl (jI_in hi hn) d (fun H locs hP hD hS => ?_)
  have e1 : vp_nar .boolean (jI x) = jI x := by rcases hx with rfl | rfl <;> rfl
  rw [e1, jI_upd hi hn] at hP hD
  exact k H locs ls hP hD hS hl
theorem z_last {a n : Nat} {i x : Int} {f : Int → Int} {w' : va_W} (X : Cx p s m args meth c cc nL Ts own D E A) (d : decode cc pc = .ok (.lastore, 1)) (hq : pc + 1 = pc') (q0 : Nat) (ha : w[q0]? = some (a, .inl (E 1, n, .inr (.inl (fun j : Nat => jL (f j)))))) (hn : n < 2147483648) (hi : 0 ≤ i ∧ i < (n : Int)) (hw : w.set q0 (a, .inl (E 1, n, .inr (.inl (fun j : Nat => jL (if (j : Int) = i then x else f j))))) = w') (k : J p l e R s m args below meth c D A nL Q pc' lv (st) w') : J p l e R s m args below meth c D A nL Q pc lv (.long (jL x) :: .int (jI i) :: .ref a :: st) w := by
  subst hq
  subst hw
  intro H locs ls hP hD hS hl
  refine va_last X.1.1 X.1.2.1 X.2.1 hP hD hS q0 1 ha rfl (jI_in hi hn) d (fun H locs hP hD hS => ?_)
  rw [jL_upd hi hn] at hP hD
  exact k H locs ls hP hD hS hl
theorem z_gets {C n dd ref : String} {v : Value} {index : Nat} (X : Cx p s m args meth c cc nL Ts own D E A) (d : decode cc pc = .ok (.getstatic index, 3)) (hq : pc + 3 = pc') (hZ : va_Z C n dd v A s s.heap) (hm : Cond.fieldLink own index ref n dd ∈ Ts) (hs : C = ref) (k : J p l e R s m args below meth c D A nL Q pc' lv (v :: st) w) : J p l e R s m args below meth c D A nL Q pc lv (st) w := by
  subst hq
  intro H locs ls hP hD hS hl
  exact va_gets X.1.1 X.1.2.1 hZ hS X.1.2.2.2.1 (X.1.2.2.2.2 _ hm) (fun x h => by rw [← hs]; exact h) d (k H locs ls hP hD hS hl)
theorem z_getsN {C n dd ref host : String} {v : Value} {index : Nat} (X : Cx p s m args meth c cc nL Ts own D E A) (d : decode cc pc = .ok (.getstatic index, 3)) (hq : pc + 3 = pc') (hZ : va_Z C n dd v A s s.heap) (hm : va_Nw (.fieldLinkNest own index ref n dd host) s) (hs : C = ref) (k : J p l e R s m args below meth c D A nL Q pc' lv (v :: st) w) : J p l e R s m args below meth c D A nL Q pc lv (st) w := by
  subst hq
  intro H locs ls hP hD hS hl
  exact va_getsN X.1.1 X.1.2.1 hZ hS X.1.2.2.2.1 (va_Nw.use rfl hm) (fun x h => by rw [← hs]; exact h) d (k H locs ls hP hD hS hl)
theorem z_ti {t N : Nat} {f : Int → Int} {i : Int} (X : Cx p s m args meth c cc nL Ts own D E A) (d : decode cc pc = .ok (.iaload, 1)) (hq : pc + 1 = pc') (hT : va_T .int t N (fun j : Nat => .int (jI (f j))) A s s.heap) (hn : N < 2147483648) (hi : 0 ≤ i ∧ i < (N : Int)) (k : J p l e R s m args below meth c D A nL Q pc' lv (.int (jI (f i)) :: st) w) : J p l e R s m args below meth c D A nL Q pc lv (.int (jI i) :: .ref t :: st) w := by
  subst hq
  intro H locs ls hP hD hS hl
  have e1 : (((jI i).toNatClampNeg : Nat) : Int) = i := by rw [jI_clamp (by omega) (by omega)]; omega
  exact va_ti X.1.1 X.1.2.1 hT hS (jI_in hi hn) (by show Value.int (jI (f (((jI i).toNatClampNeg : Nat) : Int))) = _; rw [e1]) d (k H locs ls hP hD hS hl)
theorem z_min {index : Nat} {a b : Int} (X : Cx p s m args meth c cc nL Ts own D E A) (d : decode cc pc = .ok (.invokestatic index, 3)) (hq : pc + 3 = pc') (hl1 : Cond.methodLink own index Lib.Math.min.name ∈ Ts) (hl2 : Cond.static Lib.Math.min.name ∈ Ts) (hl3 : Cond.initialized "java/lang/Math" ∈ Ts) (hl4 : Cond.code Lib.Math.min.name Lib.Math.min.code 2 (some .int) ∈ Ts) (hR : 1 ≤ R.frames ∧ (st.map fun v => v.category).sum + 13 ≤ R.locals) (hr : (-2147483648 ≤ a ∧ a < 2147483648) ∧ (-2147483648 ≤ b ∧ b < 2147483648)) (k : J p l e R s m args below meth c D A nL Q pc' lv (.int (jI (min a b)) :: st) w) : J p l e R s m args below meth c D A nL Q pc lv (.int (jI b) :: .int (jI a) :: st) w := by
  subst hq
  intro H locs ls hP hD hS hl
  refine va_mmin X.1.1 X.1.2.1 (by rw [X.1.2.2.1]; exact hl.1.symm) X.1.2.2.2.1 (X.1.2.2.2.2 _ hl1) (X.1.2.2.2.2 _ hl2) (X.1.2.2.2.2 _ hl3) (X.1.2.2.2.2 _ hl4) hR.1 hR.2 (Nat.zero_le _) (Nat.zero_le _) d ?_
  have e1 : (if jI b < jI a then jI b else jI a) = jI (min a b) := by
    by_cases h : b < a
    · rw [if_pos ((jI_lt ⟨hr.2, hr.1⟩).mpr h), Int.min_eq_right (by omega)]
    · rw [if_neg (fun q => h ((jI_lt ⟨hr.2, hr.1⟩).mp q)), Int.min_eq_left (by omega)]
  rw [e1]
  exact k H locs ls hP hD hS hl
theorem z_abs {index : Nat} {a : Int} (X : Cx p s m args meth c cc nL Ts own D E A) (d : decode cc pc = .ok (.invokestatic index, 3)) (hq : pc + 3 = pc') (hl1 : Cond.methodLink own index Lib.Math.abs.name ∈ Ts) (hl2 : Cond.static Lib.Math.abs.name ∈ Ts) (hl3 : Cond.initialized "java/lang/Math" ∈ Ts) (hl4 : Cond.code Lib.Math.abs.name Lib.Math.abs.code 1 (some .int) ∈ Ts) (hR : 1 ≤ R.frames ∧ (st.map fun v => v.category).sum + 13 ≤ R.locals) (hr : -2147483648 ≤ a ∧ a < 2147483648) (k : J p l e R s m args below meth c D A nL Q pc' lv (.int (jI (a.natAbs : Int)) :: st) w) : J p l e R s m args below meth c D A nL Q pc lv (.int (jI a) :: st) w := by
  subst hq
  intro H locs ls hP hD hS hl
  refine va_mabs X.1.1 X.1.2.1 (by rw [X.1.2.2.1]; exact hl.1.symm) X.1.2.2.2.1 (X.1.2.2.2.2 _ hl1) (X.1.2.2.2.2 _ hl2) (X.1.2.2.2.2 _ hl3) (X.1.2.2.2.2 _ hl4) hR.1 hR.2 (Nat.zero_le _) (Nat.zero_le _) d ?_
  have e1 : (if 0 ≤ jI a then jI a else 0 - jI a) = jI (a.natAbs : Int) := by
    show (if jI 0 ≤ jI a then jI a else jI 0 - jI a) = _
    by_cases h : 0 ≤ a
    · rw [if_pos ((jI_le (a := 0) (b := a) ⟨by omega, hr⟩).mpr h)]
      congr 1; omega
    · rw [if_neg (fun q => h ((jI_le (a := 0) (b := a) ⟨by omega, hr⟩).mp q)), jI_sub]
      congr 1; omega
  rw [e1]
  exact k H locs ls hP hD hS hl
theorem z_tableOut {dflt lo hi : Int} {offs : Array Int} {len : Nat} {x : Int} (X : Cx p s m args meth c cc nL Ts own D E A) (d : decode cc pc = .ok (.tableswitch dflt lo hi offs, len)) (ht : (pc : Int) + dflt = (tgt : Int)) (hr : -2147483648 ≤ x ∧ x < 2147483648) (h : x < lo ∨ hi < x) (k : J p l e R s m args below meth c D A nL Q tgt lv (st) w) : J p l e R s m args below meth c D A nL Q pc lv (.int (jI x) :: st) w := by
  intro H locs ls hP hD hS hl
  exact lv_tableOut X.1.1 X.1.2.1 d (by rw [jI_toInt hr.1 hr.2]; exact h) ht (k H locs ls hP hD hS hl)
theorem z_tableIn {dflt lo hi off : Int} {offs : Array Int} {len : Nat} {x : Int} (X : Cx p s m args meth c cc nL Ts own D E A) (d : decode cc pc = .ok (.tableswitch dflt lo hi offs, len)) (ht : (pc : Int) + off = (tgt : Int)) (hr : -2147483648 ≤ x ∧ x < 2147483648) (h : lo ≤ x ∧ x ≤ hi) (ho : offs[(x - lo).toNat]? = some off) (k : J p l e R s m args below meth c D A nL Q tgt lv (st) w) : J p l e R s m args below meth c D A nL Q pc lv (.int (jI x) :: st) w := by
  intro H locs ls hP hD hS hl
  exact lv_tableIn X.1.1 X.1.2.1 d (by rw [jI_toInt hr.1 hr.2]; omega) (by rw [jI_toInt hr.1 hr.2]; omega) (by rw [jI_toInt hr.1 hr.2]; exact ho) ht (k H locs ls hP hD hS hl)
theorem z_absL {index : Nat} {a : Int} (X : Cx p s m args meth c cc nL Ts own D E A) (d : decode cc pc = .ok (.invokestatic index, 3)) (hq : pc + 3 = pc') (hl1 : Cond.methodLink own index Lib.MathLoose.abs_long.x ∈ Ts) (hl2 : Cond.static Lib.MathLoose.abs_long.x ∈ Ts) (hl3 : Cond.initialized "java/lang/Math" ∈ Ts) (hl4 : Cond.code Lib.MathLoose.abs_long.x Lib.MathLoose.abs_long.code 2 (some .long) ∈ Ts) (hR : 1 ≤ R.frames ∧ (st.map fun v => v.category).sum + 13 ≤ R.locals) (hr : -9223372036854775808 ≤ a ∧ a < 9223372036854775808) (k : J p l e R s m args below meth c D A nL Q pc' lv (.long (jL (a.natAbs : Int)) :: st) w) : J p l e R s m args below meth c D A nL Q pc lv (.long (jL a) :: st) w := by
  subst hq
  intro H locs ls hP hD hS hl
  refine va_mabs_long X.1.1 X.1.2.1 (by rw [X.1.2.2.1]; exact hl.1.symm) X.1.2.2.2.1 (X.1.2.2.2.2 _ hl1) (X.1.2.2.2.2 _ hl2) (X.1.2.2.2.2 _ hl3) (X.1.2.2.2.2 _ hl4) hR.1 hR.2 (Nat.zero_le _) (Nat.zero_le _) d ?_
  have e1 : (if 0 < jL a then jL a else -jL a) = jL (a.natAbs : Int) := by
    show (if jL 0 < jL a then jL a else - jL a) = _
    by_cases h : 0 < a
    · rw [if_pos ((jL_lt (a := 0) (b := a) ⟨by omega, hr⟩).mpr h)]
      congr 1; omega
    · rw [if_neg (fun q => h ((jL_lt (a := 0) (b := a) ⟨by omega, hr⟩).mp q)), jL_neg]
      congr 1; omega
  rw [e1]
  exact k H locs ls hP hD hS hl
theorem z_iret {S : Type} {x : Int} {wf : S → va_W} {post : Int → S → Prop} (X : Cx p s m args meth c cc nL Ts own D E A) (d : decode cc pc = .ok (.ireturn, 1)) (hr : meth.sig.returnType = some .int) (u : S) (h : post x u) : J p l e R s m args below meth c D A nL (MQ below (va_Qi (fun r u => ∃ x, r = jI x ∧ post x u) (Bw D wf A) A) args s 0 0 A) pc lv [.int (jI x)] (wf u) := by
  intro H locs ls hP hD hS hl
  exact W.iret X.1.1 X.1.2.1 hr (fun t ht hW => ⟨⟨jI x, u, rfl, ⟨x, rfl, h⟩, by rw [ht]; exact hP, hD⟩, hS.F ht⟩) hS.2.2 d X.2.2.2.2
theorem z_zret {S : Type} {x : Int} {wf : S → va_W} {post : Int → S → Prop} (X : Cx p s m args meth c cc nL Ts own D E A) (d : decode cc pc = .ok (.ireturn, 1)) (hr : meth.sig.returnType = some .boolean) (u : S) (hx : x = 0 ∨ x = 1) (h : post x u) : J p l e R s m args below meth c D A nL (MQ below (va_Qi (fun r u => ∃ x, r = jI x ∧ post x u) (Bw D wf A) A) args s 0 0 A) pc lv [.int (jI x)] (wf u) := by
  intro H locs ls hP hD hS hl
  exact W.zret X.1.1 X.1.2.1 hr (jI_b hx) (fun t ht hW => ⟨⟨jI x, u, rfl, ⟨x, rfl, h⟩, by rw [ht]; exact hP, hD⟩, hS.F ht⟩) hS.2.2 d X.2.2.2.2
theorem z_lret {S : Type} {x : Int} {wf : S → va_W} {post : Int → S → Prop} (X : Cx p s m args meth c cc nL Ts own D E A) (d : decode cc pc = .ok (.lreturn, 1)) (hr : meth.sig.returnType = some .long) (u : S) (h : post x u) : J p l e R s m args below meth c D A nL (MQ below (va_Ql (fun r u => ∃ x, r = jL x ∧ post x u) (Bw D wf A) A) args s 0 0 A) pc lv [.long (jL x)] (wf u) := by
  intro H locs ls hP hD hS hl
  exact W.lret X.1.1 X.1.2.1 hr (fun t ht hW => ⟨⟨jL x, u, rfl, ⟨x, rfl, h⟩, by rw [ht]; exact hP, hD⟩, hS.F ht⟩) hS.2.2 d X.2.2.2.2
theorem z_vret {S : Type} {wf : S → va_W} {post : S → Prop} (X : Cx p s m args meth c cc nL Ts own D E A) (d : decode cc pc = .ok (.return_, 1)) (hr : meth.sig.returnType = none) (u : S) (h : post u) : J p l e R s m args below meth c D A nL (MQ below (va_Qv post (Bw D wf A) A) args s 0 0 A) pc lv [] (wf u) := by
  intro H locs ls hP hD hS hl
  exact W.vret X.1.1 X.1.2.1 hr (fun t ht hW => ⟨⟨u, rfl, h, by rw [ht]; exact hP, hD⟩, hS.F ht⟩) hS.2.2 d X.2.2.2.2
end ZR
/-- from a walk of the body to the contract's Met: the entry -/
theorem z_enter {p : Program} {l : Launch} {e : Env} {R : Room} {s : State} {m : MethodId} {args : Array Value} {below : List Frame} {meth : Method} {c : Code} {D : va_G} {E : Nat → Nat} {Q : State → Prop} {cc : ByteArray} {ws : List Cond} {y : MethodName} {rm : Room} {ret : Option FieldType} {s₁ : State} {w : va_W} {sz maxL : Nat} {as : List Value}
    (B : BodyLoose p l y (headSpec ws rm) cc maxL ret e s m args below meth c s₁) (hml : c.maxLocals = maxL) (hv : va_Pc as (Pw D E w sz) args s) (hn : (lg_sl as).length ≤ maxL)
    (k : ∀ A : Nat → Prop, A = va_A w sz → Cx p s m args meth c cc maxL ws y.cls D E A → J p l e R s m args below meth c D A maxL Q 0 (lv_args 0 as) [] w) : W p l e R s m args below meth c s.heap [] 0 0 Q (entryFrame m args maxL) := by
  obtain ⟨rfl, hsz, hP, hK, hD0, hZ⟩ := hv
  subst hsz
  have hD := hD0.self (sz := s.heap.size)
  have hl := lv_entry as (n := maxL) hn
  rw [lg_entry_eq]
  exact k _ rfl ⟨⟨B.exec, B.bytes, hml, findClass_of_methodNamed B.named, atoms_spec (ws := ws) B.pre⟩, hK, fun q h => Or.inr h, hZ, B.notSynchronized⟩ _ _ _ hP hD va_S.rf hl

section ZC
variable {p : Program} {l : Launch} {e : Env} {R : Room} {s : State} {m : MethodId} {args : Array Value} {below : List Frame} {meth : Method} {c : Code} {D : va_G} {E : Nat → Nat} {A : Nat → Prop} {nL : Nat} {Q : State → Prop} {cc : ByteArray} {Ts : List Cond} {own : String} {pc pc' tgt : Nat} {lv lv' : List (Nat × Value)} {st rest : List Value} {w : va_W}
variable {y : MethodName} {bytes : ByteArray} {maxL n index : Nat} {ret : Option FieldType} {ws : List Cond} {rm : Room} {C : String} {b : Addr} {As : List Value} {S : Type} {wf : S → va_W}
theorem z_pre {H : Heap} {locs : List Loc} {w1 : va_W} {U : State} {as : List Value} (X : Cx p s m args meth c cc nL Ts own D E A) (hP : va_P D vwCl w1 H) (hD : va_D A w1) (hS : va_S A s.heap H locs) (hU : U.heap = H) (hW : s.WarmedH U.vm) : va_Pc as (Pw D E w1 H.size) as.toArray U := by
  refine ⟨rfl, by rw [hU], by rw [hU]; exact hP, va_K.moved hW.alike X.2.1, hD.weaken (fun _ _ _ _ => trivial), ?_⟩
  rw [hU]
  refine StZ.warm hW (StZ.narrow (A := A) (StZ.kept X.2.2.2.1 (fun a h1 h2 => hS.2.1 a h1 h2)) (fun q h => ?_))
  rcases h with ⟨k, e, h⟩ | h
  · exact hD.2 k _ h
  · exact X.2.2.1 q (Nat.le_trans hS.1 h)
theorem z_freeA {H : Heap} {locs : List Loc} {w1 : va_W} (X : Cx p s m args meth c cc nL Ts own D E A) (hD : va_D A w1) (hS : va_S A s.heap H locs) : ∀ q, va_A w1 H.size q → A q := by
  intro q h
  rcases h with ⟨k, e, h⟩ | h
  · exact hD.2 k _ h
  · exact X.2.2.1 q (Nat.le_trans hS.1 h)

theorem z_callVI {post : Int → S → Prop} (X : Cx p s m args meth c cc nL Ts own D E A) (d : decode cc pc = .ok (.invokevirtual index, 3)) (hq : pc + 3 = pc') (hM : CtI l D E y ws rm (.ref b :: As) w wf post) (cw : CallW R s args own C index y bytes maxL ret ws rm 0 0 n) {ci : Nat} {T : u_T} {N : Nat} {fs : List Value} (q0 : Nat) (he : w[q0]? = some (b, .inr (ci, fs))) (hc : vwCl[ci]? = some (C, T, N)) (hn : As.length = n) (hst : st = As.reverse ++ .ref b :: rest) (hWr : (rest.map fun v => v.category).sum ≤ 8) (kk : ∀ (x : Int) (u : S), post x u → J p l e R s m args below meth c D A nL Q pc' lv (.int (jI x) :: rest) (wf u)) : J p l e R s m args below meth c D A nL Q pc lv (st) w := by
  subst hq
  subst hst
  intro H locs ls hP hD hS hl
  refine va_calli (va_runV (As := As) (rest := rest) X.1 (hM H.size) cw ⟨Pw.blind D E w H.size _, va_recv X.2.1 hP hc he, fun U hU hW => z_pre X hP hD hS hU hW⟩ rfl hn hl.1 rfl (lv_room hWr) d ⟨Nat.zero_le _, Nat.zero_le _⟩) hS (fun q _ h => z_freeA X hD hS q h) (z_freeA X hD hS) (fun r u t H1 locs1 ht hvm hw hB hz hk hS1 => ?_)
  obtain ⟨x, rfl, hw⟩ := hw
  obtain ⟨hP1, hD1⟩ := hB
  rw [ht] at hP1
  exact kk x u hw H1 locs1 ls hP1 (hD1.weaken (fun k q _ h => z_freeA X hD hS q.1 h)) hS1 hl
theorem z_callVL {post : Int → S → Prop} (X : Cx p s m args meth c cc nL Ts own D E A) (d : decode cc pc = .ok (.invokevirtual index, 3)) (hq : pc + 3 = pc') (hM : CtL l D E y ws rm (.ref b :: As) w wf post) (cw : CallW R s args own C index y bytes maxL ret ws rm 0 0 n) {ci : Nat} {T : u_T} {N : Nat} {fs : List Value} (q0 : Nat) (he : w[q0]? = some (b, .inr (ci, fs))) (hc : vwCl[ci]? = some (C, T, N)) (hn : As.length = n) (hst : st = As.reverse ++ .ref b :: rest) (hWr : (rest.map fun v => v.category).sum ≤ 8) (kk : ∀ (x : Int) (u : S), post x u → J p l e R s m args below meth c D A nL Q pc' lv (.long (jL x) :: rest) (wf u)) : J p l e R s m args below meth c D A nL Q pc lv (st) w := by
  subst hq
  subst hst
  intro H locs ls hP hD hS hl
  refine va_calll (va_runV (As := As) (rest := rest) X.1 (hM H.size) cw ⟨Pw.blind D E w H.size _, va_recv X.2.1 hP hc he, fun U hU hW => z_pre X hP hD hS hU hW⟩ rfl hn hl.1 rfl (lv_room hWr) d ⟨Nat.zero_le _, Nat.zero_le _⟩) hS (fun q _ h => z_freeA X hD hS q h) (z_freeA X hD hS) (fun r u t H1 locs1 ht hvm hw hB hz hk hS1 => ?_)
  obtain ⟨x, rfl, hw⟩ := hw
  obtain ⟨hP1, hD1⟩ := hB
  rw [ht] at hP1
  exact kk x u hw H1 locs1 ls hP1 (hD1.weaken (fun k q _ h => z_freeA X hD hS q.1 h)) hS1 hl
theorem z_callVV {post : S → Prop} (X : Cx p s m args meth c cc nL Ts own D E A) (d : decode cc pc = .ok (.invokevirtual index, 3)) (hq : pc + 3 = pc') (hM : CtV l D E y ws rm (.ref b :: As) w wf post) (cw : CallW R s args own C index y bytes maxL ret ws rm 0 0 n) {ci : Nat} {T : u_T} {N : Nat} {fs : List Value} (q0 : Nat) (he : w[q0]? = some (b, .inr (ci, fs))) (hc : vwCl[ci]? = some (C, T, N)) (hn : As.length = n) (hst : st = As.reverse ++ .ref b :: rest) (hWr : (rest.map fun v => v.category).sum ≤ 8) (kk : ∀ (u : S), post u → J p l e R s m args below meth c D A nL Q pc' lv (rest) (wf u)) : J p l e R s m args below meth c D A nL Q pc lv (st) w := by
  subst hq
  subst hst
  intro H locs ls hP hD hS hl
  refine va_callv (va_runV (As := As) (rest := rest) X.1 (hM H.size) cw ⟨Pw.blind D E w H.size _, va_recv X.2.1 hP hc he, fun U hU hW => z_pre X hP hD hS hU hW⟩ rfl hn hl.1 rfl (lv_room hWr) d ⟨Nat.zero_le _, Nat.zero_le _⟩) hS (fun q _ h => z_freeA X hD hS q h) (z_freeA X hD hS) (fun u t H1 locs1 ht hvm hw hB hz hk hS1 => ?_)
  obtain ⟨hP1, hD1⟩ := hB
  rw [ht] at hP1
  exact kk u hw H1 locs1 ls hP1 (hD1.weaken (fun k q _ h => z_freeA X hD hS q.1 h)) hS1 hl
theorem z_callPI {post : Int → S → Prop} (X : Cx p s m args meth c cc nL Ts own D E A) (d : decode cc pc = .ok (.invokestatic index, 3)) (hq : pc + 3 = pc') (hM : CtI l D E y ws rm As [] wf post) (cw : CallB R s args own index y bytes maxL ret ws rm 0 0 n ∧ (Cond.static y).before args s = true) (hn : As.length = n) (hst : st = As.reverse ++ rest) (hWr : (rest.map fun v => v.category).sum ≤ 8) (kk : ∀ (x : Int) (u : S), post x u → J p l e R s m args below meth c D A nL Q pc' lv (.int (jI x) :: rest) w) : J p l e R s m args below meth c D A nL Q pc lv (st) w := by
  subst hq
  subst hst
  intro H locs ls hP hD hS hl
  have hP0 : va_P D vwCl [] H := fun k q h => by simp at h
  have hD0 : va_D A [] := ⟨fun i j p q h => by simp at h, fun k q h => by simp at h⟩
  refine va_calli (va_runS (As := As) (rest := rest) X.1 (hM H.size) cw ⟨Pw.blind D E [] H.size _, fun U hU hW => z_pre X hP0 hD0 hS hU hW⟩ rfl hn hl.1 rfl (lv_room hWr) d ⟨Nat.zero_le _, Nat.zero_le _⟩) hS (fun q _ h => z_freeA X hD0 hS q h) (z_freeA X hD0 hS) (fun r u t H1 locs1 ht hvm hw hB hz hk hS1 => ?_)
  obtain ⟨x, rfl, hw⟩ := hw
  refine kk x u hw H1 locs1 ls (hP.kept (fun k q h => ?_)) hD hS1 hl
  have hlt := (hP k q h).lt
  refine hk q.1 hlt (fun z => ?_)
  rcases z with ⟨k2, e2, z⟩ | z
  · simp at z
  · omega
theorem z_callPL {post : Int → S → Prop} (X : Cx p s m args meth c cc nL Ts own D E A) (d : decode cc pc = .ok (.invokestatic index, 3)) (hq : pc + 3 = pc') (hM : CtL l D E y ws rm As [] wf post) (cw : CallB R s args own index y bytes maxL ret ws rm 0 0 n ∧ (Cond.static y).before args s = true) (hn : As.length = n) (hst : st = As.reverse ++ rest) (hWr : (rest.map fun v => v.category).sum ≤ 8) (kk : ∀ (x : Int) (u : S), post x u → J p l e R s m args below meth c D A nL Q pc' lv (.long (jL x) :: rest) w) : J p l e R s m args below meth c D A nL Q pc lv (st) w := by
  subst hq
  subst hst
  intro H locs ls hP hD hS hl
  have hP0 : va_P D vwCl [] H := fun k q h => by simp at h
  have hD0 : va_D A [] := ⟨fun i j p q h => by simp at h, fun k q h => by simp at h⟩
  refine va_calll (va_runS (As := As) (rest := rest) X.1 (hM H.size) cw ⟨Pw.blind D E [] H.size _, fun U hU hW => z_pre X hP0 hD0 hS hU hW⟩ rfl hn hl.1 rfl (lv_room hWr) d ⟨Nat.zero_le _, Nat.zero_le _⟩) hS (fun q _ h => z_freeA X hD0 hS q h) (z_freeA X hD0 hS) (fun r u t H1 locs1 ht hvm hw hB hz hk hS1 => ?_)
  obtain ⟨x, rfl, hw⟩ := hw
  refine kk x u hw H1 locs1 ls (hP.kept (fun k q h => ?_)) hD hS1 hl
  have hlt := (hP k q h).lt
  refine hk q.1 hlt (fun z => ?_)
  rcases z with ⟨k2, e2, z⟩ | z
  · simp at z
  · omega
theorem z_callPNI {post : Int → S → Prop} (X : Cx p s m args meth c cc nL Ts own D E A) (d : decode cc pc = .ok (.invokestatic index, 3)) (hq : pc + 3 = pc') (hM : CtI l D E y ws rm As [] wf post) {host : String} (cw : va_CN R s args own index y host bytes maxL ret ws rm 0 0 n ∧ (Cond.static y).before args s = true ∧ True) (hn : As.length = n) (hst : st = As.reverse ++ rest) (hWr : (rest.map fun v => v.category).sum ≤ 8) (kk : ∀ (x : Int) (u : S), post x u → J p l e R s m args below meth c D A nL Q pc' lv (.int (jI x) :: rest) w) : J p l e R s m args below meth c D A nL Q pc lv (st) w := by
  subst hq
  subst hst
  intro H locs ls hP hD hS hl
  have hP0 : va_P D vwCl [] H := fun k q h => by simp at h
  have hD0 : va_D A [] := ⟨fun i j p q h => by simp at h, fun k q h => by simp at h⟩
  refine va_calli (va_runSN (As := As) (rest := rest) X.1 (hM H.size) cw ⟨Pw.blind D E [] H.size _, fun U hU hW => z_pre X hP0 hD0 hS hU hW⟩ rfl hn hl.1 rfl (lv_room hWr) d ⟨Nat.zero_le _, Nat.zero_le _⟩) hS (fun q _ h => z_freeA X hD0 hS q h) (z_freeA X hD0 hS) (fun r u t H1 locs1 ht hvm hw hB hz hk hS1 => ?_)
  obtain ⟨x, rfl, hw⟩ := hw
  refine kk x u hw H1 locs1 ls (hP.kept (fun k q h => ?_)) hD hS1 hl
  have hlt := (hP k q h).lt
  refine hk q.1 hlt (fun z => ?_)
  rcases z with ⟨k2, e2, z⟩ | z
  · simp at z
  · omega
theorem z_callPNL {post : Int → S → Prop} (X : Cx p s m args meth c cc nL Ts own D E A) (d : decode cc pc = .ok (.invokestatic index, 3)) (hq : pc + 3 = pc') (hM : CtL l D E y ws rm As [] wf post) {host : String} (cw : va_CN R s args own index y host bytes maxL ret ws rm 0 0 n ∧ (Cond.static y).before args s = true ∧ True) (hn : As.length = n) (hst : st = As.reverse ++ rest) (hWr : (rest.map fun v => v.category).sum ≤ 8) (kk : ∀ (x : Int) (u : S), post x u → J p l e R s m args below meth c D A nL Q pc' lv (.long (jL x) :: rest) w) : J p l e R s m args below meth c D A nL Q pc lv (st) w := by
  subst hq
  subst hst
  intro H locs ls hP hD hS hl
  have hP0 : va_P D vwCl [] H := fun k q h => by simp at h
  have hD0 : va_D A [] := ⟨fun i j p q h => by simp at h, fun k q h => by simp at h⟩
  refine va_calll (va_runSN (As := As) (rest := rest) X.1 (hM H.size) cw ⟨Pw.blind D E [] H.size _, fun U hU hW => z_pre X hP0 hD0 hS hU hW⟩ rfl hn hl.1 rfl (lv_room hWr) d ⟨Nat.zero_le _, Nat.zero_le _⟩) hS (fun q _ h => z_freeA X hD0 hS q h) (z_freeA X hD0 hS) (fun r u t H1 locs1 ht hvm hw hB hz hk hS1 => ?_)
  obtain ⟨x, rfl, hw⟩ := hw
  refine kk x u hw H1 locs1 ls (hP.kept (fun k q h => ?_)) hD hS1 hl
  have hlt := (hP k q h).lt
  refine hk q.1 hlt (fun z => ?_)
  rcases z with ⟨k2, e2, z⟩ | z
  · simp at z
  · omega
end ZC
