/-! ===== the judgement with room that is used up: for constructors, and the law ===== -/
def JG (p : Program) (l : Launch) (e : Env) (R : Room) (s : State) (m : MethodId) (args : Array Value) (below : List Frame) (meth : Method) (c : Code) (D : va_G) (A : Nat → Prop) (nL : Nat) (Q : State → Prop) (K N : Nat) (pc : Nat) (lv : List (Nat × Value)) (st : List Value) (w : va_W) : Prop :=
  ∀ (H : Heap) (locs : List Loc) (ls : Array Slot), va_P D vwCl w H → va_D A w → va_S A s.heap H locs → lv_has ls nL lv → W p l e R s m args below meth c H locs K N Q (F0 m pc ls st)
section NR
variable {p : Program} {l : Launch} {e : Env} {R : Room} {s : State} {m : MethodId} {args : Array Value} {below : List Frame} {meth : Method} {c : Code} {D : va_G} {E : Nat → Nat} {A : Nat → Prop} {nL : Nat} {Q : State → Prop} {K N0 : Nat} {cc : ByteArray} {Ts : List Cond} {own : String} {pc pc' tgt : Nat} {lv lv' : List (Nat × Value)} {st : List Value} {w : va_W}
theorem n_iconst {n : Int} (X : Cx p s m args meth c cc nL Ts own D E A) (d : decode cc pc = .ok (.iconst n, 1)) (hq : pc + 1 = pc') (k : JG p l e R s m args below meth c D A nL Q K N0 pc' lv (.int (jI n) :: st) w) : JG p l e R s m args below meth c D A nL Q K N0 pc lv (st) w := by
  subst hq
  intro H locs ls hP hD hS hl
  exact lv_iconst X.1.1 X.1.2.1 d rfl (k H locs ls hP hD hS hl)
theorem n_bipush {n : Int} (X : Cx p s m args meth c cc nL Ts own D E A) (d : decode cc pc = .ok (.bipush n, 2)) (hq : pc + 2 = pc') (hv : (Int8.ofInt n).toInt32 = jI n) (k : JG p l e R s m args below meth c D A nL Q K N0 pc' lv (.int (jI n) :: st) w) : JG p l e R s m args below meth c D A nL Q K N0 pc lv (st) w := by
  subst hq
  intro H locs ls hP hD hS hl
  exact lv_bipush X.1.1 X.1.2.1 d hv (k H locs ls hP hD hS hl)
theorem n_sipush {n : Int} (X : Cx p s m args meth c cc nL Ts own D E A) (d : decode cc pc = .ok (.sipush n, 3)) (hq : pc + 3 = pc') (hv : (Int16.ofInt n).toInt32 = jI n) (k : JG p l e R s m args below meth c D A nL Q K N0 pc' lv (.int (jI n) :: st) w) : JG p l e R s m args below meth c D A nL Q K N0 pc lv (st) w := by
  subst hq
  intro H locs ls hP hD hS hl
  exact lv_sipush X.1.1 X.1.2.1 d hv (k H locs ls hP hD hS hl)
theorem n_ldc {index : Nat} {n : Int32} {x : Int} (X : Cx p s m args meth c cc nL Ts own D E A) (d : decode cc pc = .ok (.ldc index, 2)) (hq : pc + 2 = pc') (hm : Cond.constant own index n ∈ Ts) (hv : n = jI x) (k : JG p l e R s m args below meth c D A nL Q K N0 pc' lv (.int (jI x) :: st) w) : JG p l e R s m args below meth c D A nL Q K N0 pc lv (st) w := by
  subst hq
  intro H locs ls hP hD hS hl
  subst hv
  exact lv_ldc X.1.1 X.1.2.1 X.1.2.2.2.1 (X.1.2.2.2.2 _ hm) d (k H locs ls hP hD hS hl)
theorem n_iload_n {kk : Fin 4} {i : Nat} {x : Int32} (X : Cx p s m args meth c cc nL Ts own D E A) (d : decode cc pc = .ok (.iload_n kk, 1)) (hq : pc + 1 = pc') (k0 : Nat) (hk : lv[k0]? = some (i, .int x)) (hi : (kk : Nat) = i) (k : JG p l e R s m args below meth c D A nL Q K N0 pc' lv (.int x :: st) w) : JG p l e R s m args below meth c D A nL Q K N0 pc lv (st) w := by
  subst hq
  intro H locs ls hP hD hS hl
  exact lv_iload_n X.1.1 X.1.2.1 d hi (lv_at hl k0 hk) (k H locs ls hP hD hS hl)
theorem n_aload_n {kk : Fin 4} {i : Nat} {x : Nat} (X : Cx p s m args meth c cc nL Ts own D E A) (d : decode cc pc = .ok (.aload_n kk, 1)) (hq : pc + 1 = pc') (k0 : Nat) (hk : lv[k0]? = some (i, .ref x)) (hi : (kk : Nat) = i) (k : JG p l e R s m args below meth c D A nL Q K N0 pc' lv (.ref x :: st) w) : JG p l e R s m args below meth c D A nL Q K N0 pc lv (st) w := by
  subst hq
  intro H locs ls hP hD hS hl
  exact lv_aload_n X.1.1 X.1.2.1 d hi (lv_at hl k0 hk) (k H locs ls hP hD hS hl)
theorem n_iload {i : Nat} {x : Int32} (X : Cx p s m args meth c cc nL Ts own D E A) (d : decode cc pc = .ok (.iload i, 2)) (hq : pc + 2 = pc') (k0 : Nat) (hk : lv[k0]? = some (i, .int x)) (k : JG p l e R s m args below meth c D A nL Q K N0 pc' lv (.int x :: st) w) : JG p l e R s m args below meth c D A nL Q K N0 pc lv (st) w := by
  subst hq
  intro H locs ls hP hD hS hl
  exact lv_iload X.1.1 X.1.2.1 d (lv_at hl k0 hk) (k H locs ls hP hD hS hl)
theorem n_istore_n {kk : Fin 4} {i : Nat} {x : Int32} (X : Cx p s m args meth c cc nL Ts own D E A) (d : decode cc pc = .ok (.istore_n kk, 1)) (hq : pc + 1 = pc') (hi : (kk : Nat) = i) (hn : i < nL) (hv : (i, Value.int x) :: lv.filter (fun q => !(q.1 == i) && !(q.1 + 1 == i && q.2.category == 2)) = lv') (k : JG p l e R s m args below meth c D A nL Q K N0 pc' lv' (st) w) : JG p l e R s m args below meth c D A nL Q K N0 pc lv (Value.int x :: st) w := by
  subst hq
  intro H locs ls hP hD hS hl
  exact lv_istore_n X.1.1 X.1.2.1 d hi hl hn hv (fun ls hl => k H locs ls hP hD hS hl)
theorem n_istore {i : Nat} {x : Int32} (X : Cx p s m args meth c cc nL Ts own D E A) (d : decode cc pc = .ok (.istore i, 2)) (hq : pc + 2 = pc') (hn : i < nL) (hv : (i, Value.int x) :: lv.filter (fun q => !(q.1 == i) && !(q.1 + 1 == i && q.2.category == 2)) = lv') (k : JG p l e R s m args below meth c D A nL Q K N0 pc' lv' (st) w) : JG p l e R s m args below meth c D A nL Q K N0 pc lv (Value.int x :: st) w := by
  subst hq
  intro H locs ls hP hD hS hl
  exact lv_istore X.1.1 X.1.2.1 d hl hn hv (fun ls hl => k H locs ls hP hD hS hl)
theorem n_astore_n {kk : Fin 4} {i : Nat} {x : Nat} (X : Cx p s m args meth c cc nL Ts own D E A) (d : decode cc pc = .ok (.astore_n kk, 1)) (hq : pc + 1 = pc') (hi : (kk : Nat) = i) (hn : i < nL) (hv : (i, Value.ref x) :: lv.filter (fun q => !(q.1 == i) && !(q.1 + 1 == i && q.2.category == 2)) = lv') (k : JG p l e R s m args below meth c D A nL Q K N0 pc' lv' (st) w) : JG p l e R s m args below meth c D A nL Q K N0 pc lv (Value.ref x :: st) w := by
  subst hq
  intro H locs ls hP hD hS hl
  exact lv_astore_n X.1.1 X.1.2.1 d hi hl hn hv (fun ls hl => k H locs ls hP hD hS hl)
theorem n_dup {va : Value} (X : Cx p s m args meth c cc nL Ts own D E A) (d : decode cc pc = .ok (.dup, 1)) (hq : pc + 1 = pc') (hc : va.category = 1) (k : JG p l e R s m args below meth c D A nL Q K N0 pc' lv (va :: va :: st) w) : JG p l e R s m args below meth c D A nL Q K N0 pc lv (va :: st) w := by
  subst hq
  intro H locs ls hP hD hS hl
  exact lv_dup X.1.1 X.1.2.1 d hc (k H locs ls hP hD hS hl)
theorem n_iinc {i : Nat} {n x : Int} (X : Cx p s m args meth c cc nL Ts own D E A) (d : decode cc pc = .ok (.iinc i n, 3)) (hq : pc + 3 = pc') (k0 : Nat) (hk : lv[k0]? = some (i, .int (jI x))) (hn : i < nL) (hv : (i, Value.int (jI (x + n))) :: lv.filter (fun q => !(q.1 == i) && !(q.1 + 1 == i && q.2.category == 2)) = lv') (k : JG p l e R s m args below meth c D A nL Q K N0 pc' lv' (st) w) : JG p l e R s m args below meth c D A nL Q K N0 pc lv (st) w := by
  subst hq
  intro H locs ls hP hD hS hl
  exact lv_iinc X.1.1 X.1.2.1 d hl hk (jI_add x n) hn hv (fun ls hl => k H locs ls hP hD hS hl)
theorem n_goto {off : Int} (X : Cx p s m args meth c cc nL Ts own D E A) (d : decode cc pc = .ok (.goto off, 3)) (ht : (pc : Int) + off = (tgt : Int)) (k : JG p l e R s m args below meth c D A nL Q K N0 tgt lv (st) w) : JG p l e R s m args below meth c D A nL Q K N0 pc lv (st) w := by
  intro H locs ls hP hD hS hl
  exact lv_goto X.1.1 X.1.2.1 d ht (k H locs ls hP hD hS hl)
theorem n_icmp_eq {a b off : Int} (X : Cx p s m args meth c cc nL Ts own D E A) (d : decode cc pc = .ok (.if_icmp .eq off, 3)) (ht : (pc : Int) + off = (tgt : Int)) (hq : pc + 3 = pc') (hr : (-2147483648 ≤ a ∧ a < 2147483648) ∧ (-2147483648 ≤ b ∧ b < 2147483648)) (kt : a = b → JG p l e R s m args below meth c D A nL Q K N0 tgt lv (st) w) (kf : ¬ a = b → JG p l e R s m args below meth c D A nL Q K N0 pc' lv (st) w) : JG p l e R s m args below meth c D A nL Q K N0 pc lv (.int (jI b) :: .int (jI a) :: st) w := by
  subst hq
  intro H locs ls hP hD hS hl
  exact lv_icmp_eq X.1.1 X.1.2.1 d ht (fun h => kt ((jI_eq hr).mp h) H locs ls hP hD hS hl) (fun h => kf (fun q => h ((jI_eq hr).mpr q)) H locs ls hP hD hS hl)
theorem n_icmp_ne {a b off : Int} (X : Cx p s m args meth c cc nL Ts own D E A) (d : decode cc pc = .ok (.if_icmp .ne off, 3)) (ht : (pc : Int) + off = (tgt : Int)) (hq : pc + 3 = pc') (hr : (-2147483648 ≤ a ∧ a < 2147483648) ∧ (-2147483648 ≤ b ∧ b < 2147483648)) (kt : ¬ a = b → JG p l e R s m args below meth c D A nL Q K N0 tgt lv (st) w) (kf : a = b → JG p l e R s m args below meth c D A nL Q K N0 pc' lv (st) w) : JG p l e R s m args below meth c D A nL Q K N0 pc lv (.int (jI b) :: .int (jI a) :: st) w := by
  subst hq
  intro H locs ls hP hD hS hl
  exact lv_icmp_ne X.1.1 X.1.2.1 d ht (fun h => kt (fun q => h ((jI_eq hr).mpr q)) H locs ls hP hD hS hl) (fun h => kf ((jI_eq hr).mp h) H locs ls hP hD hS hl)
theorem n_icmp_lt {a b off : Int} (X : Cx p s m args meth c cc nL Ts own D E A) (d : decode cc pc = .ok (.if_icmp .lt off, 3)) (ht : (pc : Int) + off = (tgt : Int)) (hq : pc + 3 = pc') (hr : (-2147483648 ≤ a ∧ a < 2147483648) ∧ (-2147483648 ≤ b ∧ b < 2147483648)) (kt : a < b → JG p l e R s m args below meth c D A nL Q K N0 tgt lv (st) w) (kf : b ≤ a → JG p l e R s m args below meth c D A nL Q K N0 pc' lv (st) w) : JG p l e R s m args below meth c D A nL Q K N0 pc lv (.int (jI b) :: .int (jI a) :: st) w := by
  subst hq
  intro H locs ls hP hD hS hl
  exact lv_icmp_lt X.1.1 X.1.2.1 d ht (fun h => kt ((jI_lt hr).mp h) H locs ls hP hD hS hl) (fun h => kf (Int.not_lt.mp (fun q => h ((jI_lt hr).mpr q))) H locs ls hP hD hS hl)
theorem n_icmp_ge {a b off : Int} (X : Cx p s m args meth c cc nL Ts own D E A) (d : decode cc pc = .ok (.if_icmp .ge off, 3)) (ht : (pc : Int) + off = (tgt : Int)) (hq : pc + 3 = pc') (hr : (-2147483648 ≤ a ∧ a < 2147483648) ∧ (-2147483648 ≤ b ∧ b < 2147483648)) (kt : b ≤ a → JG p l e R s m args below meth c D A nL Q K N0 tgt lv (st) w) (kf : a < b → JG p l e R s m args below meth c D A nL Q K N0 pc' lv (st) w) : JG p l e R s m args below meth c D A nL Q K N0 pc lv (.int (jI b) :: .int (jI a) :: st) w := by
  subst hq
  intro H locs ls hP hD hS hl
  exact lv_icmp_ge X.1.1 X.1.2.1 d ht (fun h => kt ((jI_le ⟨hr.2, hr.1⟩).mp h) H locs ls hP hD hS hl) (fun h => kf (Int.not_le.mp (fun q => h ((jI_le ⟨hr.2, hr.1⟩).mpr q))) H locs ls hP hD hS hl)
theorem n_icmp_gt {a b off : Int} (X : Cx p s m args meth c cc nL Ts own D E A) (d : decode cc pc = .ok (.if_icmp .gt off, 3)) (ht : (pc : Int) + off = (tgt : Int)) (hq : pc + 3 = pc') (hr : (-2147483648 ≤ a ∧ a < 2147483648) ∧ (-2147483648 ≤ b ∧ b < 2147483648)) (kt : b < a → JG p l e R s m args below meth c D A nL Q K N0 tgt lv (st) w) (kf : a ≤ b → JG p l e R s m args below meth c D A nL Q K N0 pc' lv (st) w) : JG p l e R s m args below meth c D A nL Q K N0 pc lv (.int (jI b) :: .int (jI a) :: st) w := by
  subst hq
  intro H locs ls hP hD hS hl
  exact lv_icmp_gt X.1.1 X.1.2.1 d ht (fun h => kt ((jI_lt ⟨hr.2, hr.1⟩).mp h) H locs ls hP hD hS hl) (fun h => kf (Int.not_lt.mp (fun q => h ((jI_lt ⟨hr.2, hr.1⟩).mpr q))) H locs ls hP hD hS hl)
theorem n_icmp_le {a b off : Int} (X : Cx p s m args meth c cc nL Ts own D E A) (d : decode cc pc = .ok (.if_icmp .le off, 3)) (ht : (pc : Int) + off = (tgt : Int)) (hq : pc + 3 = pc') (hr : (-2147483648 ≤ a ∧ a < 2147483648) ∧ (-2147483648 ≤ b ∧ b < 2147483648)) (kt : a ≤ b → JG p l e R s m args below meth c D A nL Q K N0 tgt lv (st) w) (kf : b < a → JG p l e R s m args below meth c D A nL Q K N0 pc' lv (st) w) : JG p l e R s m args below meth c D A nL Q K N0 pc lv (.int (jI b) :: .int (jI a) :: st) w := by
  subst hq
  intro H locs ls hP hD hS hl
  exact lv_icmp_le X.1.1 X.1.2.1 d ht (fun h => kt ((jI_le hr).mp h) H locs ls hP hD hS hl) (fun h => kf (Int.not_le.mp (fun q => h ((jI_le hr).mpr q))) H locs ls hP hD hS hl)
theorem n_if_eq {a off : Int} (X : Cx p s m args meth c cc nL Ts own D E A) (d : decode cc pc = .ok (.ifCond .eq off, 3)) (ht : (pc : Int) + off = (tgt : Int)) (hq : pc + 3 = pc') (hr0 : -2147483648 ≤ a ∧ a < 2147483648) (kt : a = 0 → JG p l e R s m args below meth c D A nL Q K N0 tgt lv (st) w) (kf : ¬ a = 0 → JG p l e R s m args below meth c D A nL Q K N0 pc' lv (st) w) : JG p l e R s m args below meth c D A nL Q K N0 pc lv (.int (jI a) :: st) w := by
  subst hq
  intro H locs ls hP hD hS hl
  have hr : (-2147483648 ≤ a ∧ a < 2147483648) ∧ (-2147483648 ≤ (0 : Int) ∧ (0 : Int) < 2147483648) := ⟨hr0, by omega⟩
  exact lv_if_eq X.1.1 X.1.2.1 d ht (fun h => kt ((jI_eq hr).mp h) H locs ls hP hD hS hl) (fun h => kf (fun q => h ((jI_eq hr).mpr q)) H locs ls hP hD hS hl)
theorem n_if_ne {a off : Int} (X : Cx p s m args meth c cc nL Ts own D E A) (d : decode cc pc = .ok (.ifCond .ne off, 3)) (ht : (pc : Int) + off = (tgt : Int)) (hq : pc + 3 = pc') (hr0 : -2147483648 ≤ a ∧ a < 2147483648) (kt : ¬ a = 0 → JG p l e R s m args below meth c D A nL Q K N0 tgt lv (st) w) (kf : a = 0 → JG p l e R s m args below meth c D A nL Q K N0 pc' lv (st) w) : JG p l e R s m args below meth c D A nL Q K N0 pc lv (.int (jI a) :: st) w := by
  subst hq
  intro H locs ls hP hD hS hl
  have hr : (-2147483648 ≤ a ∧ a < 2147483648) ∧ (-2147483648 ≤ (0 : Int) ∧ (0 : Int) < 2147483648) := ⟨hr0, by omega⟩
  exact lv_if_ne X.1.1 X.1.2.1 d ht (fun h => kt (fun q => h ((jI_eq hr).mpr q)) H locs ls hP hD hS hl) (fun h => kf ((jI_eq hr).mp h) H locs ls hP hD hS hl)
theorem n_if_lt {a off : Int} (X : Cx p s m args meth c cc nL Ts own D E A) (d : decode cc pc = .ok (.ifCond .lt off, 3)) (ht : (pc : Int) + off = (tgt : Int)) (hq : pc + 3 = pc') (hr0 : -2147483648 ≤ a ∧ a < 2147483648) (kt : a < 0 → JG p l e R s m args below meth c D A nL Q K N0 tgt lv (st) w) (kf : 0 ≤ a → JG p l e R s m args below meth c D A nL Q K N0 pc' lv (st) w) : JG p l e R s m args below meth c D A nL Q K N0 pc lv (.int (jI a) :: st) w := by
  subst hq
  intro H locs ls hP hD hS hl
  have hr : (-2147483648 ≤ a ∧ a < 2147483648) ∧ (-2147483648 ≤ (0 : Int) ∧ (0 : Int) < 2147483648) := ⟨hr0, by omega⟩
  exact lv_if_lt X.1.1 X.1.2.1 d ht (fun h => kt ((jI_lt hr).mp h) H locs ls hP hD hS hl) (fun h => kf (Int.not_lt.mp (fun q => h ((jI_lt hr).mpr q))) H locs ls hP hD hS hl)
theorem n_if_ge {a off : Int} (X : Cx p s m args meth c cc nL Ts own D E A) (d : decode cc pc = .ok (.ifCond .ge off, 3)) (ht : (pc : Int) + off = (tgt : Int)) (hq : pc + 3 = pc') (hr0 : -2147483648 ≤ a ∧ a < 2147483648) (kt : 0 ≤ a → JG p l e R s m args below meth c D A nL Q K N0 tgt lv (st) w) (kf : a < 0 → JG p l e R s m args below meth c D A nL Q K N0 pc' lv (st) w) : JG p l e R s m args below meth c D A nL Q K N0 pc lv (.int (jI a) :: st) w := by
  subst hq
  intro H locs ls hP hD hS hl
  have hr : (-2147483648 ≤ a ∧ a < 2147483648) ∧ (-2147483648 ≤ (0 : Int) ∧ (0 : Int) < 2147483648) := ⟨hr0, by omega⟩
  exact lv_if_ge X.1.1 X.1.2.1 d ht (fun h => kt ((jI_le ⟨hr.2, hr.1⟩).mp h) H locs ls hP hD hS hl) (fun h => kf (Int.not_le.mp (fun q => h ((jI_le ⟨hr.2, hr.1⟩).mpr q))) H locs ls hP hD hS hl)
theorem n_if_gt {a off : Int} (X : Cx p s m args meth c cc nL Ts own D E A) (d : decode cc pc = .ok (.ifCond .gt off, 3)) (ht : (pc : Int) + off = (tgt : Int)) (hq : pc + 3 = pc') (hr0 : -2147483648 ≤ a ∧ a < 2147483648) (kt : 0 < a → JG p l e R s m args below meth c D A nL Q K N0 tgt lv (st) w) (kf : a ≤ 0 → JG p l e R s m args below meth c D A nL Q K N0 pc' lv (st) w) : JG p l e R s m args below meth c D A nL Q K N0 pc lv (.int (jI a) :: st) w := by
  subst hq
  intro H locs ls hP hD hS hl
  have hr : (-2147483648 ≤ a ∧ a < 2147483648) ∧ (-2147483648 ≤ (0 : Int) ∧ (0 : Int) < 2147483648) := ⟨hr0, by omega⟩
  exact lv_if_gt X.1.1 X.1.2.1 d ht (fun h => kt ((jI_lt ⟨hr.2, hr.1⟩).mp h) H locs ls hP hD hS hl) (fun h => kf (Int.not_lt.mp (fun q => h ((jI_lt ⟨hr.2, hr.1⟩).mpr q))) H locs ls hP hD hS hl)
theorem n_if_le {a off : Int} (X : Cx p s m args meth c cc nL Ts own D E A) (d : decode cc pc = .ok (.ifCond .le off, 3)) (ht : (pc : Int) + off = (tgt : Int)) (hq : pc + 3 = pc') (hr0 : -2147483648 ≤ a ∧ a < 2147483648) (kt : a ≤ 0 → JG p l e R s m args below meth c D A nL Q K N0 tgt lv (st) w) (kf : 0 < a → JG p l e R s m args below meth c D A nL Q K N0 pc' lv (st) w) : JG p l e R s m args below meth c D A nL Q K N0 pc lv (.int (jI a) :: st) w := by
  subst hq
  intro H locs ls hP hD hS hl
  have hr : (-2147483648 ≤ a ∧ a < 2147483648) ∧ (-2147483648 ≤ (0 : Int) ∧ (0 : Int) < 2147483648) := ⟨hr0, by omega⟩
  exact lv_if_le X.1.1 X.1.2.1 d ht (fun h => kt ((jI_le hr).mp h) H locs ls hP hD hS hl) (fun h => kf (Int.not_le.mp (fun q => h ((jI_le hr).mpr q))) H locs ls hP hD hS hl)
theorem n_lcmp_eq {a b off : Int} {pc1 : Nat} (X : Cx p s m args meth c cc nL Ts own D E A) (d1 : decode cc pc = .ok (.lcmp, 1)) (hq1 : pc + 1 = pc1) (d : decode cc pc1 = .ok (.ifCond .eq off, 3)) (ht : (pc1 : Int) + off = (tgt : Int)) (hq : pc1 + 3 = pc') (hr : (-9223372036854775808 ≤ a ∧ a < 9223372036854775808) ∧ (-9223372036854775808 ≤ b ∧ b < 9223372036854775808)) (kt : a = b → JG p l e R s m args below meth c D A nL Q K N0 tgt lv (st) w) (kf : ¬ a = b → JG p l e R s m args below meth c D A nL Q K N0 pc' lv (st) w) : JG p l e R s m args below meth c D A nL Q K N0 pc lv (.long (jL b) :: .long (jL a) :: st) w := by
  subst hq
  subst hq1
  intro H locs ls hP hD hS hl
  refine W.lcmp X.1.1 X.1.2.1 d1 ?_
  rcases z_cmp3 hr with ⟨hc, h9⟩ | ⟨hc, h9⟩ | ⟨hc, h9⟩
  · rw [hc]
    exact lv_if_eq X.1.1 X.1.2.1 d ht (fun h => kt (by first | omega | (exact absurd h (by decide))) H locs ls hP hD hS hl) (fun h => kf (by first | omega | (exact absurd h (by decide)) | (exact absurd rfl h) | (exact absurd (by decide) h)) H locs ls hP hD hS hl)
  · rw [hc]
    exact lv_if_eq X.1.1 X.1.2.1 d ht (fun h => kt (by first | omega | (exact absurd h (by decide)) | (exact absurd rfl h)) H locs ls hP hD hS hl) (fun h => kf (by first | omega | (exact absurd h (by decide)) | (exact absurd rfl h) | (exact absurd (by decide) h)) H locs ls hP hD hS hl)
  · rw [hc]
    exact lv_if_eq X.1.1 X.1.2.1 d ht (fun h => kt (by first | omega | (exact absurd h (by decide))) H locs ls hP hD hS hl) (fun h => kf (by first | omega | (exact absurd h (by decide)) | (exact absurd rfl h) | (exact absurd (by decide) h)) H locs ls hP hD hS hl)
theorem n_lcmp_ne {a b off : Int} {pc1 : Nat} (X : Cx p s m args meth c cc nL Ts own D E A) (d1 : decode cc pc = .ok (.lcmp, 1)) (hq1 : pc + 1 = pc1) (d : decode cc pc1 = .ok (.ifCond .ne off, 3)) (ht : (pc1 : Int) + off = (tgt : Int)) (hq : pc1 + 3 = pc') (hr : (-9223372036854775808 ≤ a ∧ a < 9223372036854775808) ∧ (-9223372036854775808 ≤ b ∧ b < 9223372036854775808)) (kt : ¬ a = b → JG p l e R s m args below meth c D A nL Q K N0 tgt lv (st) w) (kf : a = b → JG p l e R s m args below meth c D A nL Q K N0 pc' lv (st) w) : JG p l e R s m args below meth c D A nL Q K N0 pc lv (.long (jL b) :: .long (jL a) :: st) w := by
  subst hq
  subst hq1
  intro H locs ls hP hD hS hl
  refine W.lcmp X.1.1 X.1.2.1 d1 ?_
  rcases z_cmp3 hr with ⟨hc, h9⟩ | ⟨hc, h9⟩ | ⟨hc, h9⟩
  · rw [hc]
    exact lv_if_ne X.1.1 X.1.2.1 d ht (fun h => kt (by first | omega | (exact absurd h (by decide))) H locs ls hP hD hS hl) (fun h => kf (by first | omega | (exact absurd h (by decide)) | (exact absurd rfl h) | (exact absurd (by decide) h)) H locs ls hP hD hS hl)
  · rw [hc]
    exact lv_if_ne X.1.1 X.1.2.1 d ht (fun h => kt (by first | omega | (exact absurd h (by decide)) | (exact absurd rfl h)) H locs ls hP hD hS hl) (fun h => kf (by first | omega | (exact absurd h (by decide)) | (exact absurd rfl h) | (exact absurd (by decide) h)) H locs ls hP hD hS hl)
  · rw [hc]
    exact lv_if_ne X.1.1 X.1.2.1 d ht (fun h => kt (by first | omega | (exact absurd h (by decide))) H locs ls hP hD hS hl) (fun h => kf (by first | omega | (exact absurd h (by decide)) | (exact absurd rfl h) | (exact absurd (by decide) h)) H locs ls hP hD hS hl)
theorem n_lcmp_lt {a b off : Int} {pc1 : Nat} (X : Cx p s m args meth c cc nL Ts own D E A) (d1 : decode cc pc = .ok (.lcmp, 1)) (hq1 : pc + 1 = pc1) (d : decode cc pc1 = .ok (.ifCond .lt off, 3)) (ht : (pc1 : Int) + off = (tgt : Int)) (hq : pc1 + 3 = pc') (hr : (-9223372036854775808 ≤ a ∧ a < 9223372036854775808) ∧ (-9223372036854775808 ≤ b ∧ b < 9223372036854775808)) (kt : a < b → JG p l e R s m args below meth c D A nL Q K N0 tgt lv (st) w) (kf : b ≤ a → JG p l e R s m args below meth c D A nL Q K N0 pc' lv (st) w) : JG p l e R s m args below meth c D A nL Q K N0 pc lv (.long (jL b) :: .long (jL a) :: st) w := by
  subst hq
  subst hq1
  intro H locs ls hP hD hS hl
  refine W.lcmp X.1.1 X.1.2.1 d1 ?_
  rcases z_cmp3 hr with ⟨hc, h9⟩ | ⟨hc, h9⟩ | ⟨hc, h9⟩
  · rw [hc]
    exact lv_if_lt X.1.1 X.1.2.1 d ht (fun h => kt (by first | omega | (exact absurd h (by decide))) H locs ls hP hD hS hl) (fun h => kf (by first | omega | (exact absurd h (by decide)) | (exact absurd rfl h) | (exact absurd (by decide) h)) H locs ls hP hD hS hl)
  · rw [hc]
    exact lv_if_lt X.1.1 X.1.2.1 d ht (fun h => kt (by first | omega | (exact absurd h (by decide)) | (exact absurd rfl h)) H locs ls hP hD hS hl) (fun h => kf (by first | omega | (exact absurd h (by decide)) | (exact absurd rfl h) | (exact absurd (by decide) h)) H locs ls hP hD hS hl)
  · rw [hc]
    exact lv_if_lt X.1.1 X.1.2.1 d ht (fun h => kt (by first | omega | (exact absurd h (by decide))) H locs ls hP hD hS hl) (fun h => kf (by first | omega | (exact absurd h (by decide)) | (exact absurd rfl h) | (exact absurd (by decide) h)) H locs ls hP hD hS hl)
theorem n_lcmp_ge {a b off : Int} {pc1 : Nat} (X : Cx p s m args meth c cc nL Ts own D E A) (d1 : decode cc pc = .ok (.lcmp, 1)) (hq1 : pc + 1 = pc1) (d : decode cc pc1 = .ok (.ifCond .ge off, 3)) (ht : (pc1 : Int) + off = (tgt : Int)) (hq : pc1 + 3 = pc') (hr : (-9223372036854775808 ≤ a ∧ a < 9223372036854775808) ∧ (-9223372036854775808 ≤ b ∧ b < 9223372036854775808)) (kt : b ≤ a → JG p l e R s m args below meth c D A nL Q K N0 tgt lv (st) w) (kf : a < b → JG p l e R s m args below meth c D A nL Q K N0 pc' lv (st) w) : JG p l e R s m args below meth c D A nL Q K N0 pc lv (.long (jL b) :: .long (jL a) :: st) w := by
  subst hq
  subst hq1
  intro H locs ls hP hD hS hl
  refine W.lcmp X.1.1 X.1.2.1 d1 ?_
  rcases z_cmp3 hr with ⟨hc, h9⟩ | ⟨hc, h9⟩ | ⟨hc, h9⟩
  · rw [hc]
    exact lv_if_ge X.1.1 X.1.2.1 d ht (fun h => kt (by first | omega | (exact absurd h (by decide))) H locs ls hP hD hS hl) (fun h => kf (by first | omega | (exact absurd h (by decide)) | (exact absurd rfl h) | (exact absurd (by decide) h)) H locs ls hP hD hS hl)
  · rw [hc]
    exact lv_if_ge X.1.1 X.1.2.1 d ht (fun h => kt (by first | omega | (exact absurd h (by decide)) | (exact absurd rfl h)) H locs ls hP hD hS hl) (fun h => kf (by first | omega | (exact absurd h (by decide)) | (exact absurd rfl h) | (exact absurd (by decide) h)) H locs ls hP hD hS hl)
  · rw [hc]
    exact lv_if_ge X.1.1 X.1.2.1 d ht (fun h => kt (by first | omega | (exact absurd h (by decide))) H locs ls hP hD hS hl) (fun h => kf (by first | omega | (exact absurd h (by decide)) | (exact absurd rfl h) | (exact absurd (by decide) h)) H locs ls hP hD hS hl)
theorem n_lcmp_gt {a b off : Int} {pc1 : Nat} (X : Cx p s m args meth c cc nL Ts own D E A) (d1 : decode cc pc = .ok (.lcmp, 1)) (hq1 : pc + 1 = pc1) (d : decode cc pc1 = .ok (.ifCond .gt off, 3)) (ht : (pc1 : Int) + off = (tgt : Int)) (hq : pc1 + 3 = pc') (hr : (-9223372036854775808 ≤ a ∧ a < 9223372036854775808) ∧ (-9223372036854775808 ≤ b ∧ b < 9223372036854775808)) (kt : b < a → JG p l e R s m args below meth c D A nL Q K N0 tgt lv (st) w) (kf : a ≤ b → JG p l e R s m args below meth c D A nL Q K N0 pc' lv (st) w) : JG p l e R s m args below meth c D A nL Q K N0 pc lv (.long (jL b) :: .long (jL a) :: st) w := by
  subst hq
  subst hq1
  intro H locs ls hP hD hS hl
  refine W.lcmp X.1.1 X.1.2.1 d1 ?_
  rcases z_cmp3 hr with ⟨hc, h9⟩ | ⟨hc, h9⟩ | ⟨hc, h9⟩
  · rw [hc]
    exact lv_if_gt X.1.1 X.1.2.1 d ht (fun h => kt (by first | omega | (exact absurd h (by decide))) H locs ls hP hD hS hl) (fun h => kf (by first | omega | (exact absurd h (by decide)) | (exact absurd rfl h) | (exact absurd (by decide) h)) H locs ls hP hD hS hl)
  · rw [hc]
    exact lv_if_gt X.1.1 X.1.2.1 d ht (fun h => kt (by first | omega | (exact absurd h (by decide)) | (exact absurd rfl h)) H locs ls hP hD hS hl) (fun h => kf (by first | omega | (exact absurd h (by decide)) | (exact absurd rfl h) | (exact absurd (by decide) h)) H locs ls hP hD hS hl)
  · rw [hc]
    exact lv_if_gt X.1.1 X.1.2.1 d ht (fun h => kt (by first | omega | (exact absurd h (by decide))) H locs ls hP hD hS hl) (fun h => kf (by first | omega | (exact absurd h (by decide)) | (exact absurd rfl h) | (exact absurd (by decide) h)) H locs ls hP hD hS hl)
theorem n_lcmp_le {a b off : Int} {pc1 : Nat} (X : Cx p s m args meth c cc nL Ts own D E A) (d1 : decode cc pc = .ok (.lcmp, 1)) (hq1 : pc + 1 = pc1) (d : decode cc pc1 = .ok (.ifCond .le off, 3)) (ht : (pc1 : Int) + off = (tgt : Int)) (hq : pc1 + 3 = pc') (hr : (-9223372036854775808 ≤ a ∧ a < 9223372036854775808) ∧ (-9223372036854775808 ≤ b ∧ b < 9223372036854775808)) (kt : a ≤ b → JG p l e R s m args below meth c D A nL Q K N0 tgt lv (st) w) (kf : b < a → JG p l e R s m args below meth c D A nL Q K N0 pc' lv (st) w) : JG p l e R s m args below meth c D A nL Q K N0 pc lv (.long (jL b) :: .long (jL a) :: st) w := by
  subst hq
  subst hq1
  intro H locs ls hP hD hS hl
  refine W.lcmp X.1.1 X.1.2.1 d1 ?_
  rcases z_cmp3 hr with ⟨hc, h9⟩ | ⟨hc, h9⟩ | ⟨hc, h9⟩
  · rw [hc]
    exact lv_if_le X.1.1 X.1.2.1 d ht (fun h => kt (by first | omega | (exact absurd h (by decide))) H locs ls hP hD hS hl) (fun h => kf (by first | omega | (exact absurd h (by decide)) | (exact absurd rfl h) | (exact absurd (by decide) h)) H locs ls hP hD hS hl)
  · rw [hc]
    exact lv_if_le X.1.1 X.1.2.1 d ht (fun h => kt (by first | omega | (exact absurd h (by decide)) | (exact absurd rfl h)) H locs ls hP hD hS hl) (fun h => kf (by first | omega | (exact absurd h (by decide)) | (exact absurd rfl h) | (exact absurd (by decide) h)) H locs ls hP hD hS hl)
  · rw [hc]
    exact lv_if_le X.1.1 X.1.2.1 d ht (fun h => kt (by first | omega | (exact absurd h (by decide))) H locs ls hP hD hS hl) (fun h => kf (by first | omega | (exact absurd h (by decide)) | (exact absurd rfl h) | (exact absurd (by decide) h)) H locs ls hP hD hS hl)
theorem n_get {C ref : String} {T : u_T} {N ci index a : Nat} {v : Value} {fs : List Value} (X : Cx p s m args meth c cc nL Ts own D E A) (d : decode cc pc = .ok (.getfield index, 3)) (hq : pc + 3 = pc') (hin : ∀ x ∈ u_ws C T N, x ∈ Ts) (q0 : Nat) (he : w[q0]? = some (a, .inr (ci, fs))) (hc : vwCl[ci]? = some (C, T, N)) (f : Nat) (hf : f < N) (hm : Cond.fieldLink own index ref (T f).2.1 (T f).2.2.1 ∈ Ts) (hs : (T f).1 = ref) (hv : fs[f]? = some v) (k : JG p l e R s m args below meth c D A nL Q K N0 pc' lv (v :: st) w) : JG p l e R s m args below meth c D A nL Q K N0 pc lv (.ref a :: st) w := by
  subst hq
  intro H locs ls hP hD hS hl
  exact va_get X.1.1 X.1.2.1 X.1.2.2.2.2 hin X.1.2.2.2.1 X.2.1 hP q0 he hc f hf (X.1.2.2.2.2 _ hm) (fun x h => by rw [← hs]; exact h) hv d (k H locs ls hP hD hS hl)
theorem n_put {C ref : String} {T : u_T} {N ci index a : Nat} {v : Value} {fs : List Value} {w' : va_W} {ty : FieldType} (X : Cx p s m args meth c cc nL Ts own D E A) (d : decode cc pc = .ok (.putfield index, 3)) (hq : pc + 3 = pc') (hin : ∀ x ∈ u_ws C T N, x ∈ Ts) (ty0 : Nat → FieldType) (hty : ∀ k, k < N → parseFieldDescriptor (T k).2.2.1 = some (ty0 k)) (hnm : ∀ a, a < N → ∀ b, b < N → a ≠ b → (T a).2.1 ≠ (T b).2.1) (q0 : Nat) (he : w[q0]? = some (a, .inr (ci, fs))) (hc : vwCl[ci]? = some (C, T, N)) (f : Nat) (hf : f < N) (hm : Cond.fieldLink own index ref (T f).2.1 (T f).2.2.1 ∈ Ts) (hs : (T f).1 = ref) (hfin : (T f).2.2.2 = false) (hd : parseFieldDescriptor (T f).2.2.1 = some ty) (hn : narrow ty v = v) (hfit : fits ty v = true) (hl0 : f < fs.length) (hw : w.set q0 (a, .inr (ci, fs.set f v)) = w') (k : JG p l e R s m args below meth c D A nL Q K N0 pc' lv (st) w') : JG p l e R s m args below meth c D A nL Q K N0 pc lv (v :: .ref a :: st) w := by
  subst hq
  subst hw
  intro H locs ls hP hD hS hl
  exact va_put X.1.1 X.1.2.1 X.1.2.2.2.2 hin ty0 hty hnm X.1.2.2.2.1 X.2.1 hP hD hS q0 he hc f hf (X.1.2.2.2.2 _ hm) (fun x h => by rw [← hs]; exact h) hfin hd hn hfit hl0 d (fun H locs hP hD hS => k H locs ls hP hD hS hl)
theorem n_iast {a n : Nat} {i x : Int} {f : Int → Int} {w' : va_W} (X : Cx p s m args meth c cc nL Ts own D E A) (d : decode cc pc = .ok (.iastore, 1)) (hq : pc + 1 = pc') (q0 : Nat) (ha : w[q0]? = some (a, .inl (E 0, n, .inl (fun j : Nat => jI (f j))))) (hn : n < 2147483648) (hi : 0 ≤ i ∧ i < (n : Int)) (hw : w.set q0 (a, .inl (E 0, n, .inl (fun j : Nat => jI (if (j : Int) = i then x else f j)))) = w') (k : JG p l e R s m args below meth c D A nL Q K N0 pc' lv (st) w') : JG p l e R s m args below meth c D A nL Q K N0 pc lv (.int (jI x) :: .int (jI i) :: .ref a :: st) w := by
  subst hq
  subst hw
  intro H locs ls hP hD hS hl
  refine va_iast X.1.1 X.1.2.1 X.2.1 hP hD hS q0 0 ha rfl (jI_in hi hn) d (fun H locs hP hD hS => ?_)
  rw [jI_upd hi hn] at hP hD
  exact k H locs ls hP hD hS hl
theorem n_iadd {a b : Int} (X : Cx p s m args meth c cc nL Ts own D E A) (d : decode cc pc = .ok (.iadd, 1)) (hq : pc + 1 = pc') (k : JG p l e R s m args below meth c D A nL Q K N0 pc' lv (.int (jI (a + b)) :: st) w) : JG p l e R s m args below meth c D A nL Q K N0 pc lv (.int (jI b) :: .int (jI a) :: st) w := by
  subst hq
  intro H locs ls hP hD hS hl
  exact lv_iadd X.1.1 X.1.2.1 d (by rw [jI_add]; exact k H locs ls hP hD hS hl)
theorem n_isub {a b : Int} (X : Cx p s m args meth c cc nL Ts own D E A) (d : decode cc pc = .ok (.isub, 1)) (hq : pc + 1 = pc') (k : JG p l e R s m args below meth c D A nL Q K N0 pc' lv (.int (jI (a - b)) :: st) w) : JG p l e R s m args below meth c D A nL Q K N0 pc lv (.int (jI b) :: .int (jI a) :: st) w := by
  subst hq
  intro H locs ls hP hD hS hl
  exact lv_isub X.1.1 X.1.2.1 d (by rw [jI_sub]; exact k H locs ls hP hD hS hl)
theorem n_iand {a b : Int} (X : Cx p s m args meth c cc nL Ts own D E A) (d : decode cc pc = .ok (.iand, 1)) (hq : pc + 1 = pc') (hr : (0 ≤ a ∧ a < 2147483648) ∧ (0 ≤ b ∧ b < 2147483648)) (k : JG p l e R s m args below meth c D A nL Q K N0 pc' lv (.int (jI (iAnd a b)) :: st) w) : JG p l e R s m args below meth c D A nL Q K N0 pc lv (.int (jI b) :: .int (jI a) :: st) w := by
  subst hq
  intro H locs ls hP hD hS hl
  exact lv_iand X.1.1 X.1.2.1 d (by rw [jI_and hr.1 hr.2]; exact k H locs ls hP hD hS hl)
theorem n_tableIn {dflt lo hi off : Int} {offs : Array Int} {len : Nat} {x : Int} (X : Cx p s m args meth c cc nL Ts own D E A) (d : decode cc pc = .ok (.tableswitch dflt lo hi offs, len)) (ht : (pc : Int) + off = (tgt : Int)) (hr : -2147483648 ≤ x ∧ x < 2147483648) (h : lo ≤ x ∧ x ≤ hi) (ho : offs[(x - lo).toNat]? = some off) (k : JG p l e R s m args below meth c D A nL Q K N0 tgt lv (st) w) : JG p l e R s m args below meth c D A nL Q K N0 pc lv (.int (jI x) :: st) w := by
  intro H locs ls hP hD hS hl
  exact lv_tableIn X.1.1 X.1.2.1 d (by rw [jI_toInt hr.1 hr.2]; omega) (by rw [jI_toInt hr.1 hr.2]; omega) (by rw [jI_toInt hr.1 hr.2]; exact ho) ht (k H locs ls hP hD hS hl)
theorem n_tableOut {dflt lo hi : Int} {offs : Array Int} {len : Nat} {x : Int} (X : Cx p s m args meth c cc nL Ts own D E A) (d : decode cc pc = .ok (.tableswitch dflt lo hi offs, len)) (ht : (pc : Int) + dflt = (tgt : Int)) (hr : -2147483648 ≤ x ∧ x < 2147483648) (h : x < lo ∨ hi < x) (k : JG p l e R s m args below meth c D A nL Q K N0 tgt lv (st) w) : JG p l e R s m args below meth c D A nL Q K N0 pc lv (.int (jI x) :: st) w := by
  intro H locs ls hP hD hS hl
  exact lv_tableOut X.1.1 X.1.2.1 d (by rw [jI_toInt hr.1 hr.2]; exact h) ht (k H locs ls hP hD hS hl)
end NR
abbrev zf : Int → Int := fun _ => 0
/-- an array of int rows can be made: its class is there, over that of int rows -/
def AO1 (U : State) : Prop := ∃ (cI cA : ClassId) (kA : Class), U.vm.findClass "[I" = some cI ∧ U.vm.findClass "[[I" = some cA ∧ U.vm.classes[cA]? = some kA ∧ kA.kind = .array cI (.array .int)
theorem AO1.moved {u U : State} (hvm : u.vm.Alike U.vm) (h : AO1 u) : AO1 U := by
  obtain ⟨cI, cA, kA, fI, fA, gA, eA⟩ := h
  obtain ⟨kA', gA', bA⟩ := hvm.2.2 _ _ gA
  exact ⟨cI, cA, kA', (hvm.findClass _ _).trans fI, (hvm.findClass _ _).trans fA, gA', by rw [bA]; exact eA⟩
/-- the nest mates whose constructors a new object calls -/
def nwI : List (Nat × MethodName) := [(9, yX3_init), (18, yX1_init), (32, yX0_init), (39, yX4_init)]
def AOA (U : State) : Prop := AO1 U ∧ ∀ x ∈ nwI, va_Nw (.methodLinkNest RX5 x.1 x.2 "PivotBeats") U
theorem AOA.warm {s U : State} (hW : s.WarmedH U.vm) (h : AOA s) : AOA U := ⟨AO1.moved hW.alike h.1, fun x hx => va_Nw.warmM hW (h.2 x hx)⟩
theorem AOA.same {s U : State} (hv : s.vm = U.vm) (h : AOA s) : AOA U := ⟨AO1.moved (by rw [hv]; exact Vm.Alike.refl U.vm) h.1, fun x hx => va_Nw.same rfl hv (h.2 x hx)⟩
def CtN {S : Type} (l : Launch) (D : va_G) (E : Nat → Nat) (y : MethodName) (ws : List Cond) (rm : Room) (as : List Value) (w : va_W) (wf : S → va_W) (post : S → Prop) (mc ms : Nat) : Prop :=
  ∀ sz : Nat, Met l y ws rm (va_Pc as (fun U => Pw D E w sz U ∧ AOA U)) (va_Qv post (Bw D wf (va_A w sz)) (va_A w sz)) mc ms (va_A w sz)
theorem PwN.blind (D : va_G) (E : Nat → Nat) (w : va_W) (sz : Nat) (as : List Value) : FrameBlind (va_Pc as (fun U => Pw D E w sz U ∧ AOA U)) := by
  intro a U g mk q
  obtain ⟨q0, ⟨q1, qP, qK, qD, qZ⟩, qA⟩ := q
  exact ⟨q0, ⟨q1, qP, va_K.moved (u := U) (U := U.calling g mk a) (Vm.Alike.refl U.vm) qK, qD, StZ.call g mk a qZ⟩, AOA.same (s := U) (U := U.calling g mk a) rfl qA⟩
theorem Pl {D : va_G} {cl : List vw_C} {a b : va_W} {H : Heap} (h : va_P D cl (a ++ b) H) : va_P D cl a H := fun k q hk => h k q (by rw [List.getElem?_append_left (List.getElem?_eq_some_iff.mp hk).1]; exact hk)
theorem Pr {D : va_G} {cl : List vw_C} {a b : va_W} {H : Heap} (h : va_P D cl (a ++ b) H) : va_P D cl b H := fun k q hk => h (a.length + k) q (by rw [List.getElem?_append_right (by omega), show a.length + k - a.length = k by omega]; exact hk)
theorem Dl {A : Nat → Prop} {a b : va_W} (h : va_D A (a ++ b)) : va_D A a := ⟨fun i j p q hi hj e => h.1 i j p q (by rw [List.getElem?_append_left (List.getElem?_eq_some_iff.mp hi).1]; exact hi) (by rw [List.getElem?_append_left (List.getElem?_eq_some_iff.mp hj).1]; exact hj) e, fun k q hk => h.2 k q (by rw [List.getElem?_append_left (List.getElem?_eq_some_iff.mp hk).1]; exact hk)⟩
theorem Dr {A : Nat → Prop} {a b : va_W} (h : va_D A (a ++ b)) : va_D A b := by
  have g : ∀ (k : Nat) (q : Nat × va_E), b[k]? = some q → (a ++ b)[a.length + k]? = some q := fun k q hk => by rw [List.getElem?_append_right (by omega), show a.length + k - a.length = k by omega]; exact hk
  exact ⟨fun i j p q hi hj e => by have := h.1 _ _ p q (g i p hi) (g j q hj) e; omega, fun k q hk => h.2 _ q (g k q hk)⟩
theorem Dx {A : Nat → Prop} {a b : va_W} (h : va_D A (a ++ b)) (i j : Nat) (p q : Nat × va_E) (hi : a[i]? = some p) (hj : b[j]? = some q) : p.1 ≠ q.1 := by
  intro e
  have il := (List.getElem?_eq_some_iff.mp hi).1
  have := h.1 i (a.length + j) p q (by rw [List.getElem?_append_left il]; exact hi) (by rw [List.getElem?_append_right (by omega), show a.length + j - a.length = j by omega]; exact hj) e
  omega
section NC
variable {p : Program} {l : Launch} {e : Env} {R : Room} {s : State} {m : MethodId} {args : Array Value} {below : List Frame} {meth : Method} {c : Code} {D : va_G} {E : Nat → Nat} {A : Nat → Prop} {nL : Nat} {Q : State → Prop} {K N0 : Nat} {cc : ByteArray} {Ts : List Cond} {own : String} {pc pc' tgt : Nat} {lv lv' : List (Nat × Value)} {st rest : List Value} {w wA wB : va_W}
theorem n_swap (k : JG p l e R s m args below meth c D A nL Q K N0 pc lv st (wB ++ wA)) : JG p l e R s m args below meth c D A nL Q K N0 pc lv st (wA ++ wB) := by
  intro H locs ls hP hD hS hl
  exact k H locs ls ((Pr hP).app (Pl hP)) ((Dr hD).app (Dl hD) (fun i j p q hi hj => (Dx hD j i q p hj hi).symm)) hS hl
theorem n_widen {K' N' : Nat} (h1 : K ≤ K') (h2 : N0 ≤ N') (k : JG p l e R s m args below meth c D A nL Q K' N' pc lv st w) : JG p l e R s m args below meth c D A nL Q K N0 pc lv st w := by
  intro H locs ls hP hD hS hl
  exact W.widen (k := K') (n := N') h1 h2 (k H locs ls hP hD hS hl)
theorem n_sub {w' : va_W} (is : List Nat) (hs : is.filterMap (fun i => w[i]?) = w') (hn : va_nd is = true) (hs2 : is.map (fun i => w[i]?) = w'.map some) (k : JG p l e R s m args below meth c D A nL Q K N0 pc lv st w') : JG p l e R s m args below meth c D A nL Q K N0 pc lv st w := by
  intro H locs ls hP hD hS hl
  exact k H locs ls (hP.sub is hs) (hD.sub is hn hs2) hS hl
theorem n_lv (ks : List Nat) (h : lv_pick lv ks = lv') (k : JG p l e R s m args below meth c D A nL Q K N0 pc lv' st w) : JG p l e R s m args below meth c D A nL Q K N0 pc lv st w :=
  fun H locs ls hP hD hS hl => k H locs ls hP hD hS (lv_sub hl ks h)
theorem n_newI {n : Nat} (X : Cx p s m args meth c cc nL Ts own D E A) (d : decode cc pc = .ok (.newarray .int, 2)) (hq : pc + 2 = pc') (hm : Cond.arrayClass .int ∈ Ts) (hn : ¬ jI (n : Int) < 0) (hN : (jI (n : Int)).toNatClampNeg = n) (hb : n * 4 ≤ 536870912) (hR : K + 1 ≤ R.cells ∧ N0 + n ≤ R.slots) (k : ∀ q : Nat, JG p l e R s m args below meth c D A nL Q (K + 1) (N0 + n) pc' lv (.ref q :: st) (w ++ [(q, .inl (E 0, n, .inl (fun j : Nat => jI (zf j))))])) : JG p l e R s m args below meth c D A nL Q K N0 pc lv (.int (jI (n : Int)) :: st) w := by
  subst hq
  intro H locs ls hP hD hS hl
  refine va_newa (atype := .int) X.1.1 X.1.2.1 (X.1.2.2.2.2 _ hm) rfl X.2.1 hP hD hS X.2.2.1 (a0 := (n, .inl (fun j : Nat => jI (zf j)))) (fun _ => rfl) hn hN hb hR.1 hR.2 d (fun q cA H1 hK1 hP1 hD1 hS1 => ?_)
  have e1 : s.vm.findClass ("[" ++ FieldType.int.toString) = some cA := (hK1.2 4 (cA, .int) rfl).2
  have e2 : s.vm.findClass ("[" ++ FieldType.int.toString) = some (E 0) := (X.2.1.2 0 (E 0, .int) rfl).2
  have ec : cA = E 0 := Option.some.inj (e1.symm.trans e2)
  subst ec
  exact k q H1 locs ls hP1 hD1 hS1 hl
theorem n_newZ {n : Nat} (X : Cx p s m args meth c cc nL Ts own D E A) (d : decode cc pc = .ok (.newarray .boolean, 2)) (hq : pc + 2 = pc') (hm : Cond.arrayClass .boolean ∈ Ts) (hn : ¬ jI (n : Int) < 0) (hN : (jI (n : Int)).toNatClampNeg = n) (hb : n * 1 ≤ 536870912) (hR : K + 1 ≤ R.cells ∧ N0 + n ≤ R.slots) (k : ∀ q : Nat, JG p l e R s m args below meth c D A nL Q (K + 1) (N0 + n) pc' lv (.ref q :: st) (w ++ [(q, .inl (E 2, n, .inl (fun j : Nat => jI (zf j))))])) : JG p l e R s m args below meth c D A nL Q K N0 pc lv (.int (jI (n : Int)) :: st) w := by
  subst hq
  intro H locs ls hP hD hS hl
  refine va_newa (atype := .boolean) X.1.1 X.1.2.1 (X.1.2.2.2.2 _ hm) rfl X.2.1 hP hD hS X.2.2.1 (a0 := (n, .inl (fun j : Nat => jI (zf j)))) (fun _ => rfl) hn hN hb hR.1 hR.2 d (fun q cA H1 hK1 hP1 hD1 hS1 => ?_)
  have e1 : s.vm.findClass ("[" ++ FieldType.boolean.toString) = some cA := (hK1.2 4 (cA, .boolean) rfl).2
  have e2 : s.vm.findClass ("[" ++ FieldType.boolean.toString) = some (E 2) := (X.2.1.2 2 (E 2, .boolean) rfl).2
  have ec : cA = E 2 := Option.some.inj (e1.symm.trans e2)
  subst ec
  exact k q H1 locs ls hP1 hD1 hS1 hl
theorem n_newJ {n : Nat} (X : Cx p s m args meth c cc nL Ts own D E A) (d : decode cc pc = .ok (.newarray .long, 2)) (hq : pc + 2 = pc') (hm : Cond.arrayClass .long ∈ Ts) (hn : ¬ jI (n : Int) < 0) (hN : (jI (n : Int)).toNatClampNeg = n) (hb : n * 8 ≤ 536870912) (hR : K + 1 ≤ R.cells ∧ N0 + n ≤ R.slots) (k : ∀ q : Nat, JG p l e R s m args below meth c D A nL Q (K + 1) (N0 + n) pc' lv (.ref q :: st) (w ++ [(q, .inl (E 1, n, .inr (.inl (fun j : Nat => jL (zf j)))))])) : JG p l e R s m args below meth c D A nL Q K N0 pc lv (.int (jI (n : Int)) :: st) w := by
  subst hq
  intro H locs ls hP hD hS hl
  refine va_newa (atype := .long) X.1.1 X.1.2.1 (X.1.2.2.2.2 _ hm) rfl X.2.1 hP hD hS X.2.2.1 (a0 := (n, .inr (.inl (fun j : Nat => jL (zf j))))) (fun _ => rfl) hn hN hb hR.1 hR.2 d (fun q cA H1 hK1 hP1 hD1 hS1 => ?_)
  have e1 : s.vm.findClass ("[" ++ FieldType.long.toString) = some cA := (hK1.2 4 (cA, .long) rfl).2
  have e2 : s.vm.findClass ("[" ++ FieldType.long.toString) = some (E 1) := (X.2.1.2 1 (E 1, .long) rfl).2
  have ec : cA = E 1 := Option.some.inj (e1.symm.trans e2)
  subst ec
  exact k q H1 locs ls hP1 hD1 hS1 hl
theorem n_putF {C ref : String} {T : u_T} {N ci index a : Nat} {v : Value} {fs : List Value} {w' : va_W} {ty : FieldType} (X : Cx p s m args meth c cc nL Ts own D E A) (hi : meth.name = "<init>") (d : decode cc pc = .ok (.putfield index, 3)) (hq : pc + 3 = pc') (hin : ∀ x ∈ u_ws C T N, x ∈ Ts) (ty0 : Nat → FieldType) (hty : ∀ k, k < N → parseFieldDescriptor (T k).2.2.1 = some (ty0 k)) (hnm : ∀ a, a < N → ∀ b, b < N → a ≠ b → (T a).2.1 ≠ (T b).2.1) (q0 : Nat) (he : w[q0]? = some (a, .inr (ci, fs))) (hc : vwCl[ci]? = some (C, T, N)) (f : Nat) (hf : f < N) (hm : Cond.fieldLink own index ref (T f).2.1 (T f).2.2.1 ∈ Ts) (hs : (T f).1 = ref) (hfin : (T f).2.2.2 = true) (hdc : (T f).1 = own) (hd : parseFieldDescriptor (T f).2.2.1 = some ty) (hn : narrow ty v = v) (hfit : fits ty v = true) (hl0 : f < fs.length) (hw : w.set q0 (a, .inr (ci, fs.set f v)) = w') (k : JG p l e R s m args below meth c D A nL Q K N0 pc' lv (st) w') : JG p l e R s m args below meth c D A nL Q K N0 pc lv (v :: .ref a :: st) w := by
  subst hq
  subst hw
  intro H locs ls hP hD hS hl
  exact va_putF X.1.1 X.1.2.1 X.1.2.2.2.2 hin ty0 hty hnm X.1.2.2.2.1 X.2.1 hP hD hS q0 he hc f hf (X.1.2.2.2.2 _ hm) (fun x h => by rw [← hs]; exact h) hfin hi hdc hd hn hfit hl0 d (fun H locs hP hD hS => k H locs ls hP hD hS hl)
theorem n_oinit {idx a : Nat} (X : Cx p s m args meth c cc nL Ts own D E A) (d : decode cc pc = .ok (.invokespecial idx, 3)) (hq : pc + 3 = pc') (h1 : Cond.methodLink own idx objectInit ∈ Ts) (h2 : Cond.instanceMethod objectInit ∈ Ts) (h3 : Cond.code objectInit ⟨#[0xb1]⟩ 1 none ∈ Ts) (hR : 1 ≤ R.frames ∧ 12 ≤ R.locals) (k : JG p l e R s m args below meth c D A nL Q K N0 pc' lv [] w) : JG p l e R s m args below meth c D A nL Q K N0 pc lv [.ref a] w := by
  subst hq
  intro H locs ls hP hD hS hl
  refine W.objInit X.1.1 X.1.2.1 X.1.2.2.2.1 (X.1.2.2.2.2 _ h1) (X.1.2.2.2.2 _ h2) (X.1.2.2.2.2 _ h3) rfl (hl.1.trans X.1.2.2.1.symm) rfl d hR.1 hR.2 ?_
  exact W.eq (g2 := F0 m (pc + 3) ls []) rfl (k H locs ls hP hD hS hl)
theorem n_new {C : String} {T : u_T} {N ci index : Nat} {fs : List Value} (X : Cx p s m args meth c cc nL Ts own D E A) (d : decode cc pc = .ok (.new index, 3)) (hq : pc + 3 = pc') (hin : ∀ x ∈ u_ws C T N, x ∈ Ts) (ty : Nat → FieldType) (hty : ∀ k, k < N → parseFieldDescriptor (T k).2.2.1 = some (ty k)) (h1 : Cond.classLink own index C ∈ Ts) (h2 : Cond.instantiable C N ∈ Ts) (h3 : Cond.initialized C ∈ Ts) (hc : vwCl[ci]? = some (C, T, N)) (hfs : ∀ j, j < N → defaultValue (ty j) = vp_V fs j) (hR : K + 1 ≤ R.cells ∧ N0 + N ≤ R.slots) (k : ∀ q : Nat, JG p l e R s m args below meth c D A nL Q (K + 1) (N0 + N) pc' lv (.ref q :: st) (w ++ [(q, .inr (ci, fs))])) : JG p l e R s m args below meth c D A nL Q K N0 pc lv st w := by
  subst hq
  intro H locs ls hP hD hS hl
  exact va_new X.1.1 X.1.2.1 X.1.2.2.2.2 hin ty hty X.1.2.2.2.1 (X.1.2.2.2.2 _ h1) (X.1.2.2.2.2 _ h2) (X.1.2.2.2.2 _ h3) X.2.1 hP hD hS X.2.2.1 hc hfs hR.1 hR.2 d (fun q H1 hP1 hD1 hS1 => k q H1 locs ls hP1 hD1 hS1 hl)
theorem n_vret {S : Type} {wf : S → va_W} {post : S → Prop} (X : Cx p s m args meth c cc nL Ts own D E A) (d : decode cc pc = .ok (.return_, 1)) (hr : meth.sig.returnType = none) (u : S) (h : post u) (hw : w = wf u) : JG p l e R s m args below meth c D A nL (MQ below (va_Qv post (Bw D wf A) A) args s K N0 A) K N0 pc lv [] w := by
  subst hw
  intro H locs ls hP hD hS hl
  exact W.vret X.1.1 X.1.2.1 hr (fun t ht hW => ⟨⟨u, rfl, h, by rw [ht]; exact hP, hD⟩, hS.F ht⟩) hS.2.2 d X.2.2.2.2
theorem n_join {S : Type} {wf : S → va_W} {H H1 : Heap} {locs : List Loc} {u : S} (X : Cx p s m args meth c cc nL Ts own D E A) (hP : va_P D vwCl (wA ++ wB) H) (hD : va_D A (wA ++ wB)) (hS : va_S A s.heap H locs) (hP1 : va_P D vwCl (wf u) H1) (hD1 : va_D (va_A wA H.size) (wf u)) (hk : ∀ q : Nat, q < H.size → ¬ va_A wA H.size q → H1[q]? = H[q]?) : va_P D vwCl (wf u ++ wB) H1 ∧ va_D A (wf u ++ wB) := by
  have hne : ∀ (k : Nat) (q : Nat × va_E), wB[k]? = some q → q.1 < H.size ∧ ¬ va_A wA H.size q.1 := by
    intro k q hq
    have hlt := (Pr hP k q hq).lt
    refine ⟨hlt, fun z => ?_⟩
    rcases z with ⟨k2, e2, z⟩ | z
    · exact Dx hD k2 k _ q z hq rfl
    · omega
  refine ⟨hP1.app ((Pr hP).kept (fun k q hq => hk q.1 (hne k q hq).1 (hne k q hq).2)), (hD1.weaken (fun k q _ h => z_freeA X (Dl hD) hS q.1 h)).app (Dr hD) (fun i j p q hi hj e => ?_)⟩
  have a1 := hD1.2 i p hi
  rw [e] at a1
  exact (hne j q hj).2 a1
variable {y : MethodName} {bytes : ByteArray} {maxL n index : Nat} {ret : Option FieldType} {ws : List Cond} {rm : Room} {C : String} {b : Addr} {As : List Value} {S : Type} {wf : S → va_W}
/-- a call on the first part of the world -/
theorem n_callI {post : Int → S → Prop} (X : Cx p s m args meth c cc nL Ts own D E A) (d : decode cc pc = .ok (.invokevirtual index, 3)) (hq : pc + 3 = pc') (hM : CtI l D E y ws rm (.ref b :: As) wA wf post) (cw : CallW R s args own C index y bytes maxL ret ws rm 0 0 n) {ci : Nat} {T : u_T} {N : Nat} {fs : List Value} (q0 : Nat) (he : wA[q0]? = some (b, .inr (ci, fs))) (hc : vwCl[ci]? = some (C, T, N)) (hn : As.length = n) (hst : st = As.reverse ++ .ref b :: rest) (hWr : (rest.map fun v => v.category).sum ≤ 8) (hR : K + 0 ≤ R.cells ∧ N0 + 0 ≤ R.slots) (kk : ∀ (x : Int) (u : S), post x u → JG p l e R s m args below meth c D A nL Q K N0 pc' lv (.int (jI x) :: rest) (wf u ++ wB)) : JG p l e R s m args below meth c D A nL Q K N0 pc lv (st) (wA ++ wB) := by
  subst hq
  subst hst
  intro H locs ls hP hD hS hl
  refine va_calli (va_runV (As := As) (rest := rest) X.1 (hM H.size) cw ⟨Pw.blind D E wA H.size _, va_recv X.2.1 (Pl hP) hc he, fun U hU hW => z_pre X (Pl hP) (Dl hD) hS hU hW⟩ rfl hn hl.1 rfl (lv_room hWr) d hR) hS (fun q _ h => z_freeA X (Dl hD) hS q h) (z_freeA X (Dl hD) hS) (fun r u t H1 locs1 ht hvm hw hB hz hk hS1 => ?_)
  obtain ⟨x, rfl, hw⟩ := hw
  obtain ⟨hP1, hD1⟩ := hB
  rw [ht] at hP1
  obtain ⟨j1, j2⟩ := n_join X hP hD hS hP1 hD1 hk
  exact kk x u hw H1 locs1 ls j1 j2 hS1 hl
theorem n_callL {post : Int → S → Prop} (X : Cx p s m args meth c cc nL Ts own D E A) (d : decode cc pc = .ok (.invokevirtual index, 3)) (hq : pc + 3 = pc') (hM : CtL l D E y ws rm (.ref b :: As) wA wf post) (cw : CallW R s args own C index y bytes maxL ret ws rm 0 0 n) {ci : Nat} {T : u_T} {N : Nat} {fs : List Value} (q0 : Nat) (he : wA[q0]? = some (b, .inr (ci, fs))) (hc : vwCl[ci]? = some (C, T, N)) (hn : As.length = n) (hst : st = As.reverse ++ .ref b :: rest) (hWr : (rest.map fun v => v.category).sum ≤ 8) (hR : K + 0 ≤ R.cells ∧ N0 + 0 ≤ R.slots) (kk : ∀ (x : Int) (u : S), post x u → JG p l e R s m args below meth c D A nL Q K N0 pc' lv (.long (jL x) :: rest) (wf u ++ wB)) : JG p l e R s m args below meth c D A nL Q K N0 pc lv (st) (wA ++ wB) := by
  subst hq
  subst hst
  intro H locs ls hP hD hS hl
  refine va_calll (va_runV (As := As) (rest := rest) X.1 (hM H.size) cw ⟨Pw.blind D E wA H.size _, va_recv X.2.1 (Pl hP) hc he, fun U hU hW => z_pre X (Pl hP) (Dl hD) hS hU hW⟩ rfl hn hl.1 rfl (lv_room hWr) d hR) hS (fun q _ h => z_freeA X (Dl hD) hS q h) (z_freeA X (Dl hD) hS) (fun r u t H1 locs1 ht hvm hw hB hz hk hS1 => ?_)
  obtain ⟨x, rfl, hw⟩ := hw
  obtain ⟨hP1, hD1⟩ := hB
  rw [ht] at hP1
  obtain ⟨j1, j2⟩ := n_join X hP hD hS hP1 hD1 hk
  exact kk x u hw H1 locs1 ls j1 j2 hS1 hl
/-- the object that is made last is filled -/
theorem n_callN {post : S → Prop} {mc ms : Nat} {fe : va_E} (X : Cx p s m args meth c cc nL Ts own D E A) (hao : AOA s) (d : decode cc pc = .ok (.invokespecial index, 3)) (hq : pc + 3 = pc') (hM : CtN l D E y ws rm [.ref b] [(b, fe)] wf post mc ms) (cw : CallB R s args own index y bytes maxL none ws rm mc ms 0 ∧ y.name = "<init>" ∧ (Cond.instanceMethod y).before args s = true) (hWr : (rest.map fun v => v.category).sum ≤ 8) (hR : K + mc ≤ R.cells ∧ N0 + ms ≤ R.slots) (kk : ∀ (u : S), post u → JG p l e R s m args below meth c D A nL Q (K + mc) (N0 + ms) pc' lv rest (w ++ wf u)) : JG p l e R s m args below meth c D A nL Q K N0 pc lv (.ref b :: rest) (w ++ [(b, fe)]) := by
  subst hq
  refine n_swap ?_
  intro H locs ls hP hD hS hl
  refine va_callv (va_runI (As := []) (rest := rest) X.1 (hM H.size) cw ⟨PwN.blind D E [(b, fe)] H.size _, fun U hU hW => ?_⟩ rfl rfl hl.1 rfl (lv_room hWr) d hR) hS (fun q _ h => z_freeA X (Dl hD) hS q h) (z_freeA X (Dl hD) hS) (fun u t H1 locs1 ht hvm hw hB hz hk hS1 => ?_)
  · have z := z_pre (as := [.ref b]) X (Pl hP) (Dl hD) hS hU hW
    exact ⟨z.1, z.2, AOA.warm hW hao⟩
  · obtain ⟨hP1, hD1⟩ := hB
    rw [ht] at hP1
    obtain ⟨j1, j2⟩ := n_join X hP hD hS hP1 hD1 hk
    exact n_swap (kk u hw) H1 locs1 ls j1 j2 hS1 hl
/-- the object that is made last is filled -/
theorem n_callNN {host : String} {post : S → Prop} {mc ms : Nat} {fe : va_E} (X : Cx p s m args meth c cc nL Ts own D E A) (hao : AOA s) (d : decode cc pc = .ok (.invokespecial index, 3)) (hq : pc + 3 = pc') (hM : CtN l D E y ws rm [.ref b] [(b, fe)] wf post mc ms) (cw : va_CN R s args own index y host bytes maxL none ws rm mc ms 0 ∧ y.name = "<init>" ∧ (Cond.instanceMethod y).before args s = true) (hWr : (rest.map fun v => v.category).sum ≤ 8) (hR : K + mc ≤ R.cells ∧ N0 + ms ≤ R.slots) (kk : ∀ (u : S), post u → JG p l e R s m args below meth c D A nL Q (K + mc) (N0 + ms) pc' lv rest (w ++ wf u)) : JG p l e R s m args below meth c D A nL Q K N0 pc lv (.ref b :: rest) (w ++ [(b, fe)]) := by
  subst hq
  refine n_swap ?_
  intro H locs ls hP hD hS hl
  refine va_callv (va_runIN (As := []) (rest := rest) X.1 (hM H.size) cw ⟨PwN.blind D E [(b, fe)] H.size _, fun U hU hW => ?_⟩ rfl rfl hl.1 rfl (lv_room hWr) d hR) hS (fun q _ h => z_freeA X (Dl hD) hS q h) (z_freeA X (Dl hD) hS) (fun u t H1 locs1 ht hvm hw hB hz hk hS1 => ?_)
  · have z := z_pre (as := [.ref b]) X (Pl hP) (Dl hD) hS hU hW
    exact ⟨z.1, z.2, AOA.warm hW hao⟩
  · obtain ⟨hP1, hD1⟩ := hB
    rw [ht] at hP1
    obtain ⟨j1, j2⟩ := n_join X hP hD hS hP1 hD1 hk
    exact n_swap (kk u hw) H1 locs1 ls j1 j2 hS1 hl
end NC
theorem mk_N {S : Type} {l : Launch} {D : va_G} {E : Nat → Nat} {y : MethodName} {ws ws' : List Cond} {rm : Room} {as : List Value} {w : va_W} {wf : S → va_W} {cc : ByteArray} {maxL mc ms : Nat} {ret : Option FieldType} {post : S → Prop} (hy : plainName y.cls = true) (hw : ws = Cond.code y cc maxL ret :: ws') (hn : (lg_sl as).length ≤ maxL)
    (k : ∀ (p : Program) (e : Env) (s : State) (m : MethodId) (args : Array Value) (below : List Frame) (meth : Method) (c : Code) (A : Nat → Prop), Cx p s m args meth c cc maxL ws y.cls D E A → AOA s → meth.name = y.name → meth.sig.returnType = ret → JG p l e (headSpec ws rm).room s m args below meth c D A maxL (MQ below (va_Qv post (Bw D wf A) A) args s mc ms A) 0 0 0 (lv_args 0 as) [] w) : CtN l D E y ws rm as w wf post mc ms := by
  intro sz
  refine Met.ofW (cc := cc) (maxL := maxL) (ret := ret) hy hw ?_
  intro p e s m args below meth c s₁ B hml hv
  obtain ⟨hv1, hv2, hv3⟩ := hv
  have hv : va_Pc as (Pw D E w sz) args s := ⟨hv1, hv2⟩
  have hnm : meth.name = y.name := (name_of_methodNamed B.named B.method).1
  exact z_enter B hml hv hn (fun A hA X => by subst hA; exact fun H locs ls hP hD hS hl => k p e s m args below meth c _ X hv3 hnm B.returns H locs ls hP hD hS hl)

