/-! Entry of a method of the JDK's whose class has native rows, but not for it. -/
section OFF
variable {l : Launch} {D : va_G} {tys : fTy} {z : Nat} {y : MethodName} {ws ws' : List Cond} {rm : Room} {av : List Value} {w0 : va_W} {cc : ByteArray} {maxL : Nat} {ty : FieldType}
theorem met_F {Pc : Array Value → State → Prop} {Qc : Array Value → State → Outcome → State → Prop} {mc ms : Nat} {free : Addr → Prop} {ret : Option FieldType} (hy : plainFor y = true) (hw : ws = Cond.code y cc maxL ret :: ws')
    (body : ∀ p e s m args below meth c s₁, BodyLoose p l y (headSpec ws rm) cc maxL ret e s m args below meth c s₁ → c.maxLocals = maxL → Pc args s → W p l e (headSpec ws rm).room s m args below meth c s.heap [] 0 0 (MQ below Qc args s mc ms free) (entryFrame m args maxL)) : Met l y ws rm Pc Qc mc ms free := by
  refine MetFree.of_bodySF (code := cc) (maxLocals := maxL) (ret := ret) hy ?_ ?_
  · intro args s m h hn
    obtain ⟨meth, c, h1, h2, h3, h4, h5, h6, -, -⟩ := Cond.code_spec hn (atoms_spec (ws := ws) h _ (by rw [hw]; exact List.mem_cons_self))
    exact ⟨meth, c, h1, h2, h3, h4, h5, h6⟩
  · intro p e s m args below meth c s₁ B hml hP _
    have hh0 : s₁.heap = s.heap := by rw [B.state]; rfl
    obtain ⟨t, a1, o, b1, b2, b3⟩ := body p e s m args below meth c s₁ B hml hP s₁ hh0 (Stand.of_body B)
    exact ⟨t, o, a1, b1, b2, ⟨b3.1, b3.2⟩⟩
theorem ofFI {post : Int32 → va_W → Prop} (own : String) (hcls : y.cls = own) (hpn : plainFor y = true) (hw : ws = Cond.code y cc maxL (some ty) :: ws') (hlen : (lg_sl av).length ≤ maxL)
    (body : ∀ (p : Program) (e : Env) (s : State) (m : MethodId) (args : Array Value) (below : List Frame) (meth : Method) (c : Code) (A : Nat → Prop) (ls : Array Slot), fE p s m args meth c D tys z ws own cc maxL (some ty) av w0 A ls → W p l e rm s m args below meth c s.heap [] 0 0 (MQ below (va_Qi post (fB D tys A) A) args s rm.cells rm.slots A) (F0 m 0 ls [])) : mI l D tys z y ws rm av w0 post := by
  intro sz
  refine met_F (cc := cc) (maxL := maxL) (ret := some ty) hpn hw ?_
  intro p e s m args below meth c s₁ B hml hv
  obtain ⟨ls, e1, hE⟩ := fEof own hcls hlen B hml hv
  rw [e1]
  exact body p e s m args below meth c _ ls hE
theorem ofFD {post : UInt64 → va_W → Prop} (own : String) (hcls : y.cls = own) (hpn : plainFor y = true) (hw : ws = Cond.code y cc maxL (some ty) :: ws') (hlen : (lg_sl av).length ≤ maxL)
    (body : ∀ (p : Program) (e : Env) (s : State) (m : MethodId) (args : Array Value) (below : List Frame) (meth : Method) (c : Code) (A : Nat → Prop) (ls : Array Slot), fE p s m args meth c D tys z ws own cc maxL (some ty) av w0 A ls → W p l e rm s m args below meth c s.heap [] 0 0 (MQ below (va_Qd post (fB D tys A) A) args s rm.cells rm.slots A) (F0 m 0 ls [])) : mD l D tys z y ws rm av w0 post := by
  intro sz
  refine met_F (cc := cc) (maxL := maxL) (ret := some ty) hpn hw ?_
  intro p e s m args below meth c s₁ B hml hv
  obtain ⟨ls, e1, hE⟩ := fEof own hcls hlen B hml hv
  rw [e1]
  exact body p e s m args below meth c _ ls hE
end OFF
