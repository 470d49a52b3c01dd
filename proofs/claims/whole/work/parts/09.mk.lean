section MK
variable {S : Type} {l : Launch} {D : va_G} {E : Nat → Nat} {y : MethodName} {ws ws' : List Cond} {rm : Room} {as : List Value} {w : va_W} {wf : S → va_W} {cc : ByteArray} {maxL : Nat} {ret : Option FieldType}
theorem mk_I {post : Int → S → Prop} (hy : plainName y.cls = true) (hw : ws = Cond.code y cc maxL ret :: ws') (hn : (lg_sl as).length ≤ maxL)
    (k : ∀ (p : Program) (e : Env) (s : State) (m : MethodId) (args : Array Value) (below : List Frame) (meth : Method) (c : Code) (A : Nat → Prop), Cx p s m args meth c cc maxL ws y.cls D E A → meth.sig.returnType = ret → J p l e (headSpec ws rm).room s m args below meth c D A maxL (MQ below (va_Qi (fun r u => ∃ x, r = jI x ∧ post x u) (Bw D wf A) A) args s 0 0 A) 0 (lv_args 0 as) [] w) : CtI l D E y ws rm as w wf post := by
  intro sz
  refine Met.ofW (cc := cc) (maxL := maxL) (ret := ret) hy hw ?_
  intro p e s m args below meth c s₁ B hml hv
  exact z_enter B hml hv hn (fun A hA X => by subst hA; exact k p e s m args below meth c _ X B.returns)
theorem mk_L {post : Int → S → Prop} (hy : plainName y.cls = true) (hw : ws = Cond.code y cc maxL ret :: ws') (hn : (lg_sl as).length ≤ maxL)
    (k : ∀ (p : Program) (e : Env) (s : State) (m : MethodId) (args : Array Value) (below : List Frame) (meth : Method) (c : Code) (A : Nat → Prop), Cx p s m args meth c cc maxL ws y.cls D E A → meth.sig.returnType = ret → J p l e (headSpec ws rm).room s m args below meth c D A maxL (MQ below (va_Ql (fun r u => ∃ x, r = jL x ∧ post x u) (Bw D wf A) A) args s 0 0 A) 0 (lv_args 0 as) [] w) : CtL l D E y ws rm as w wf post := by
  intro sz
  refine Met.ofW (cc := cc) (maxL := maxL) (ret := ret) hy hw ?_
  intro p e s m args below meth c s₁ B hml hv
  exact z_enter B hml hv hn (fun A hA X => by subst hA; exact k p e s m args below meth c _ X B.returns)
theorem mk_V {post : S → Prop} (hy : plainName y.cls = true) (hw : ws = Cond.code y cc maxL ret :: ws') (hn : (lg_sl as).length ≤ maxL)
    (k : ∀ (p : Program) (e : Env) (s : State) (m : MethodId) (args : Array Value) (below : List Frame) (meth : Method) (c : Code) (A : Nat → Prop), Cx p s m args meth c cc maxL ws y.cls D E A → meth.sig.returnType = ret → J p l e (headSpec ws rm).room s m args below meth c D A maxL (MQ below (va_Qv post (Bw D wf A) A) args s 0 0 A) 0 (lv_args 0 as) [] w) : CtV l D E y ws rm as w wf post := by
  intro sz
  refine Met.ofW (cc := cc) (maxL := maxL) (ret := ret) hy hw ?_
  intro p e s m args below meth c s₁ B hml hv
  exact z_enter B hml hv hn (fun A hA X => by subst hA; exact k p e s m args below meth c _ X B.returns)
end MK
/-- fewer locals, in another order -/
theorem z_lv {p : Program} {l : Launch} {e : Env} {R : Room} {s : State} {m : MethodId} {args : Array Value} {below : List Frame} {meth : Method} {c : Code} {D : va_G} {A : Nat → Prop} {nL : Nat} {Q : State → Prop} {pc : Nat} {lv lv' : List (Nat × Value)} {st : List Value} {w : va_W} (ks : List Nat) (h : lv_pick lv ks = lv') (k : J p l e R s m args below meth c D A nL Q pc lv' st w) : J p l e R s m args below meth c D A nL Q pc lv st w :=
  fun H locs ls hP hD hS hl => k H locs ls hP hD hS (lv_sub hl ks h)
