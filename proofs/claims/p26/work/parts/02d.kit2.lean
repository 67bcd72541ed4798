/-! Entry of a method that catches: the table of its handlers is at hand. -/
section MK2
variable {l : Launch} {D : va_G} {tys : fTy} {z : Nat} {y : MethodName} {ws ws' : List Cond} {rm : Room} {av : List Value} {w0 : va_W} {cc : ByteArray} {maxL : Nat} {ty : FieldType} {hh : List (Nat × Nat × Nat × Nat)}
theorem ofWI {post : Int32 → va_W → Prop} (own : String) (hcls : y.cls = own) (hpn : plainName y.cls = true) (hw : ws = Cond.codeWith y cc maxL (some ty) hh :: ws') (hlen : (lg_sl av).length ≤ maxL)
    (body : ∀ (p : Program) (e : Env) (s : State) (m : MethodId) (args : Array Value) (below : List Frame) (meth : Method) (c : Code) (A : Nat → Prop) (ls : Array Slot), c.exceptionTable.toList = tableOf hh → fE p s m args meth c D tys z ws own cc maxL (some ty) av w0 A ls → W p l e rm s m args below meth c s.heap [] 0 0 (MQ below (va_Qi post (fB D tys A) A) args s rm.cells rm.slots A) (F0 m 0 ls [])) : mI l D tys z y ws rm av w0 post := by
  intro sz
  refine va_MetW (cc := cc) (maxL := maxL) (ret := some ty) hpn hw ?_
  intro p e s m args below meth c s₁ B hml hv
  obtain ⟨ls, e1, hE⟩ := fEof own hcls hlen B hml hv
  rw [e1]
  exact body p e s m args below meth c _ ls (vx_table (x := y) B (hE.2.2.2.2.1 _ (by rw [hw]; exact List.mem_cons_self))) hE
end MK2
