/-! ===== rows of the law ===== -/
def R_law : String := "PivotBeatsLaw"
def lw_P (b : Addr) (xs : List Int32) (args : Array Value) (s : State) : Prop := args = #[.ref b] ∧ s.IntsAt b xs ∧ xs.length ≤ 3072 ∧ (Jvm.Cond.and given_1 narrow_1).before args s = true
def lw_Q (_ : Array Value) (s : State) (o : Outcome) (t : State) : Prop := o = .returned (some (.int 1)) ∧ Framed s o t [] 600000 7302250
def lw_Z (below : List Frame) (a : Array Value) (s : State) : State → Prop := fun t => ∃ o, t.status = .running ∧ Ended t below o ∧ lw_Q a s o t
/-- the law's own end, with 1 on the stack, nothing written that was there before, its room as the claim has it -/
theorem lw_ret {p : Program} {l : Launch} {e : Env} {s : State} {m : MethodId} {below : List Frame} {meth : Method} {c : Code} {b : Nat} (hx : p.tables.exec = Jvm.exec) (hb : c.code = code) (hr : meth.sig.returnType = ret) (hlocks : meth.locks = false) {pc : Nat} {H : Heap} {ls : Array Slot} (hdg : decode code pc = .ok (.ireturn, 1)) : W p l e room_1 s m #[Value.ref b] below meth c H [] 600000 7302250 (lw_Z below #[Value.ref b] s) (F0 m pc ls [.int 1]) := by
  intro T hT X
  obtain ⟨fs, hret, hrun, hended, hW, hframe⟩ := X.leave (v := some (.int 1)) (hlocks := hlocks) (fun h => by rw [hr] at h; cases h)
  have hmeth' : T.vm.method? m = some meth := X.method'
  refine ⟨T.setFrames fs, ?_, .returned (some (.int 1)), hrun, hended, rfl, ⟨_, rfl⟩, hW, hframe⟩
  jvm_step X.here [X.here.top, hx, hb, hdg, hmeth', hr, ret, narrow_b1]
  (try refine ⟨rfl, ?_⟩); (try refine ⟨rfl, ?_⟩)
  first | (intro acts; rw [hret _ acts rfl rfl rfl]) | rw [hret _ _ rfl rfl rfl]
  exact Steps.refl _
/-- what holds at the law's entry: the machine, the code, the tables' words (any of lw_tbl by 'hts w (by decide +kernel)'), the script of L ints xs at the cell b, what the Statement gives of the start (any of its parts by flat_of_before) -/
def lw_At (p : Program) (s : State) (m : MethodId) (meth : Method) (c : Code) (b L : Nat) (xs : Nat → Int32) : Prop :=
  p.tables.exec = Jvm.exec ∧ c.code = code ∧ meth.sig.returnType = ret ∧ c.maxLocals = 4 ∧ s.vm.findClass R_law = some m.cls ∧ (∀ w ∈ lw_tbl, w.before #[Value.ref b] s = true) ∧ va_X b L xs s s.heap ∧ b < s.heap.size ∧ meth.locks = false ∧ (Jvm.Cond.and given_1 narrow_1).before #[Value.ref b] s = true
def sx (xs : Nat → Int32) (z : Int) : Int := (xs z.toNat).toInt
theorem sx_r (xs : Nat → Int32) (z : Int) : -2147483648 ≤ sx xs z ∧ sx xs z < 2147483648 := jI_rng _
def isB (x : Int) : Int := if x = 0 then 0 else 1
theorem isB_r (x : Int) : 0 ≤ isB x ∧ isB x ≤ 1 := by
  unfold isB
  split <;> omega
theorem and31 (x : Int32) : ∃ y : Int, (0 ≤ y ∧ y ≤ 31) ∧ x &&& jI 31 = jI y := by
  have hb : (x &&& jI 31).toBitVec = BitVec.ofNat 32 (x.toBitVec.toNat % 32) := by
    rw [Int32.toBitVec_and]
    apply BitVec.eq_of_toNat_eq
    rw [BitVec.toNat_and, show (jI 31).toBitVec.toNat = 2 ^ 5 - 1 from rfl, Nat.and_two_pow_sub_one_eq_mod, BitVec.toNat_ofNat]
    omega
  exact ⟨((x.toBitVec.toNat % 32 : Nat) : Int), by omega, jI_ofbv _ hb⟩
section LR
variable {p : Program} {l : Launch} {e : Env} {R : Room} {s : State} {m : MethodId} {args : Array Value} {below : List Frame} {meth : Method} {c : Code} {D : va_G} {E : Nat → Nat} {A : Nat → Prop} {nL : Nat} {Q : State → Prop} {K N0 : Nat} {cc : ByteArray} {Ts : List Cond} {own : String} {pc pc' tgt : Nat} {lv lv' : List (Nat × Value)} {st : List Value} {w : va_W}
theorem n_sld {b L : Nat} {xs : Nat → Int32} {z : Int} (X : Cx p s m args meth c cc nL Ts own D E A) (hX : va_X b L xs s s.heap) (hbl : b < s.heap.size) (hbA : ¬ A b) (d : decode cc pc = .ok (.iaload, 1)) (hq : pc + 1 = pc') (hL : L ≤ 3072) (hz : 0 ≤ z ∧ z < L) (k : JG p l e R s m args below meth c D A nL Q K N0 pc' lv (.int (jI (sx xs z)) :: st) w) : JG p l e R s m args below meth c D A nL Q K N0 pc lv (.int (jI z) :: .ref b :: st) w := by
  subst hq
  intro H locs ls hP hD hS hl
  refine va_sld X.1.1 X.1.2.1 hX hbl hbA hS (jI_in hz (by omega)) d ?_
  rw [jI_clamp (a := z) (by omega) (by omega), show xs z.toNat = jI (sx xs z) from jI_of _]
  exact k H locs ls hP hD hS hl
theorem n_slen {b L : Nat} {xs : Nat → Int32} (X : Cx p s m args meth c cc nL Ts own D E A) (hX : va_X b L xs s s.heap) (hbl : b < s.heap.size) (hbA : ¬ A b) (d : decode cc pc = .ok (.arraylength, 1)) (hq : pc + 1 = pc') (k : JG p l e R s m args below meth c D A nL Q K N0 pc' lv (.int (jI (L : Int)) :: st) w) : JG p l e R s m args below meth c D A nL Q K N0 pc lv (.ref b :: st) w := by
  subst hq
  intro H locs ls hP hD hS hl
  refine va_slen X.1.1 X.1.2.1 hX hbl hbA hS d ?_
  rw [show Int32.ofNat L = jI (L : Int) from (Int32.ofInt_eq_ofNat).symm]
  exact k H locs ls hP hD hS hl
theorem n_and31 {a : Int} (X : Cx p s m args meth c cc nL Ts own D E A) (d : decode cc pc = .ok (.iand, 1)) (hq : pc + 1 = pc') (k : ∀ y : Int, (0 ≤ y ∧ y ≤ 31) → JG p l e R s m args below meth c D A nL Q K N0 pc' lv (.int (jI y) :: st) w) : JG p l e R s m args below meth c D A nL Q K N0 pc lv (.int (jI 31) :: .int (jI a) :: st) w := by
  subst hq
  intro H locs ls hP hD hS hl
  obtain ⟨y, hy, ey⟩ := and31 (jI a)
  exact lv_iand X.1.1 X.1.2.1 d (by rw [ey]; exact k y hy H locs ls hP hD hS hl)
theorem n_icmp_same {v : Int32} {off : Int} (X : Cx p s m args meth c cc nL Ts own D E A) (d : decode cc pc = .ok (.if_icmp .eq off, 3)) (ht : (pc : Int) + off = (tgt : Int)) (k : JG p l e R s m args below meth c D A nL Q K N0 tgt lv (st) w) : JG p l e R s m args below meth c D A nL Q K N0 pc lv (.int v :: .int v :: st) w := by
  intro H locs ls hP hD hS hl
  exact lv_icmp_eq X.1.1 X.1.2.1 d ht (fun _ => k H locs ls hP hD hS hl) (fun h => absurd rfl h)
theorem n_lcmp_same {v : Int64} {off : Int} {pc1 : Nat} (X : Cx p s m args meth c cc nL Ts own D E A) (d1 : decode cc pc = .ok (.lcmp, 1)) (hq1 : pc + 1 = pc1) (d : decode cc pc1 = .ok (.ifCond .eq off, 3)) (ht : (pc1 : Int) + off = (tgt : Int)) (k : JG p l e R s m args below meth c D A nL Q K N0 tgt lv (st) w) : JG p l e R s m args below meth c D A nL Q K N0 pc lv (.long v :: .long v :: st) w := by
  subst hq1
  intro H locs ls hP hD hS hl
  refine W.lcmp X.1.1 X.1.2.1 d1 ?_
  have hc : lg_cmp v v = 0 := by
    unfold lg_cmp
    rw [if_neg (fun h : v > v => absurd h (Int64.lt_irrefl)), if_pos rfl]
  rw [hc]
  exact lv_if_eq X.1.1 X.1.2.1 d ht (fun _ => k H locs ls hP hD hS hl) (fun h => absurd rfl h)
theorem n_ret1 {b : Nat} (X : Cx p s m #[Value.ref b] meth c code nL Ts own D E (fun q => s.heap.size ≤ q)) (hr : meth.sig.returnType = ret) (d : decode code pc = .ok (.ireturn, 1)) : JG p l e room_1 s m #[Value.ref b] below meth c D (fun q => s.heap.size ≤ q) nL (lw_Z below #[Value.ref b] s) 600000 7302250 pc lv [.int (jI 1)] w := by
  intro H locs ls hP hD hS hl
  refine va_forget (fun q hq => hS.2.2 q hq) ?_
  exact lw_ret X.1.1 X.1.2.1 hr X.2.2.2.2 d
end LR
