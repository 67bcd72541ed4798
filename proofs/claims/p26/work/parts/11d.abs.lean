/-! Math.abs of a double: an entry of the table of natives runs in its place. -/
def rowAbs : NativeRow := (NativeRow.find? Native.java_lang_Math.nans.rows "java/lang/Math" "abs" "(D)D").get (by decide +kernel)
set_option maxRecDepth 100000 in
theorem rowAbs_at (p : Program) : NativeRow.find? p.tables.natives "java/lang/Math" "abs" "(D)D" = some rowAbs := by
  cases p <;> rfl
theorem rowAbs_does {b : UInt64} (hb : vf_n64 b) (e : Env) (S : State) : ∃ acts, (rowAbs.sem #[.double b]).run e S = .ok (some (.double (b &&& 0x7fffffffffffffff))) S acts := by
  have h1 : (b &&& 0x7fffffffffffffff) &&& 0x7fffffffffffffff ≤ 0x7ff0000000000000 := by
    rw [UInt64.and_assoc, UInt64.and_self]
    exact hb
  have h2 : wpRun (rowAbs.sem #[.double b]) (fun v t _ => v = some (.double (b &&& 0x7fffffffffffffff)) ∧ t = S) (fun _ _ _ => False) e S := by
    rw [show rowAbs.sem #[.double b] = ((do
      let r ← anyNaN64 (b &&& 0x7fffffffffffffff)
      mark "nat.java_lang_Math.abs"
      Pure.pure (some (.double r))) : Sem (Option Value)) from rfl]
    simp [jvm, wpRun, anyNaN64, h1]
  rw [wpRun_iff_run] at h2
  cases hr : (rowAbs.sem #[.double b]).run e S with
  | ok v t acts =>
    rw [hr] at h2
    obtain ⟨rfl, rfl⟩ := h2
    exact ⟨acts, rfl⟩
  | ctl x t acts =>
    rw [hr] at h2
    cases x <;> exact h2.elim
theorem ov_abs {tb : Tables} {e : Env} {S : State} {f : JFrame} {k : Class} {y : Method} (h0 : f.pc = 0) (hk : S.vm.classes[f.method.cls]? = some k) (hkn : k.name = "java/lang/Math") (hbo : k.loader = none) (hy : k.methods[f.method.idx]? = some y) (hyn : y.name = "abs") (hyd : y.desc = "(D)D") (hrow : NativeRow.find? tb.natives "java/lang/Math" "abs" "(D)D" = some rowAbs) : overridden tb e S f = some rowAbs := by
  unfold overridden
  simp [h0, hk, hkn, hbo, hy, hyn, hyd, hrow, overriddenIn]
/-- the step behind the call: the entry answers, and the caller goes on -/
theorem st_abs (p : Program) {e : Env} {below : List Frame} {S t : State} {g : JFrame} {c cm : Code} {m : MethodId} {me : Method} {k : Class} {b : UInt64} {ig : Instr} {len : Nat} (hA : At S g.method c below) (acts : List Action)
    (hk : S.vm.classes[m.cls]? = some k) (hbo : k.loader = none) (hkn : k.name = "java/lang/Math") (hm : S.vm.method? m = some me) (hmn : me.name = "abs") (hmd : me.desc = "(D)D") (hsg : me.sig.parameters.length = 1) (hc : me.code = some cm) (hml : cm.maxLocals = 2) (hlk : me.locks = false)
    (hfull : e.platform.stackFull (((S.setTop g).threads[(S.setTop g).cur]?).getD { frames := [] }) (S.setTop g).frames cm.maxLocals = false) (hb : vf_n64 b) (hdg : decode c.code g.pc = .ok (ig, len))
    (hr : Steps p.tables e below (S.setTop { g with pc := g.pc + len, stack := .double (b &&& 0x7fffffffffffffff) :: g.stack }) t) :
    Steps p.tables e below (doInvoke e (S.setTop g) acts m #[.double b]).1 t := by
  obtain ⟨g0, hg0⟩ := Option.isSome_iff_exists.mp hA.top
  obtain ⟨rst, hfr⟩ := State.topJava?_eq_some.mp hg0
  obtain ⟨mid, hmid⟩ := hA.above
  have hcur : S.cur < S.threads.size := State.cur_lt_of_frames hfr
  have hst : S.setTop g = S.setFrames (.java g :: rst) := State.setTop_of_frames _ hfr
  have hme : k.methods[m.idx]? = some me := by simpa [Vm.method?, hk] using hm
  rw [(doInvoke_java (s := S.setTop g) (e := e) (acts := acts) (args := #[.double b]) hm hc hlk hfull).1, hml]
  have hpush : (S.setTop g).pushFrame (.java { method := m, pc := 0, locals := argsToLocals #[.double b] 2, stack := [], locked := none }) = S.setFrames (.java (entryFrame m #[.double b] 2) :: .java g :: rst) := by
    rw [State.pushFrame, State.frames_setTop _ hfr, hst, State.setFrames_setFrames]
    rfl
  rw [hpush]
  have hfs : (S.setFrames (.java (entryFrame m #[.double b] 2) :: .java g :: rst)).frames = .java (entryFrame m #[.double b] 2) :: .java g :: rst := State.frames_setFrames _ hcur
  have hov : overridden p.tables e (S.setFrames (.java (entryFrame m #[.double b] 2) :: .java g :: rst)) (entryFrame m #[.double b] 2) = some rowAbs :=
    ov_abs rfl hk hkn hbo hme hmn hmd (rowAbs_at p)
  have hac : ∀ F : List Frame, argCount (S.setFrames F) m = me.sig.parameters.length + (if me.isStatic then 0 else 1) := by
    intro F
    show (match (S.vm.classes[m.cls]?).bind (fun q => q.methods[m.idx]?) with | some y => y.sig.parameters.length + (if y.isStatic then 0 else 1) | none => 0) = _
    simp [hk, hme]
  obtain ⟨acts2, hrun⟩ := rowAbs_does hb e (S.setFrames (.native { method := m, args := #[.double b] } :: .java g :: rst))
  have hcode : ∀ F : List Frame, (S.setFrames F).code? g.method = some c := by
    intro F
    have h := hA.code
    rw [State.code?_eq] at h ⊢
    simpa [State.setFrames] using h
  have hho : handOver (S.setFrames (.native { method := m, args := #[.double b] } :: .java g :: rst)) (some (.double (b &&& 0x7fffffffffffffff))) (.java g :: rst) = some (.java { g with pc := g.pc + len, stack := .double (b &&& 0x7fffffffffffffff) :: g.stack } :: rst) := by
    simp [handOver, hcode, hdg, Except.toOption]
  have htk : ∀ n : Nat, List.take (1 + n) [Value.double b] = [Value.double b] := fun n => List.take_of_length_le (Nat.le_add_right 1 n)
  have hone : (stepThread p.tables e (S.setFrames (.java (entryFrame m #[.double b] 2) :: .java g :: rst))).1 = S.setTop { g with pc := g.pc + len, stack := .double (b &&& 0x7fffffffffffffff) :: g.stack } := by
    unfold stepThread
    simp only [hfs, hov]
    simp [entryFrame, argsToLocals, Value.category, hac, hsg, htk, hrun, afterNative]
    rw [doReturn_native (f := { method := m, args := #[.double b] }) (below := .java g :: rst) (State.frames_setFrames _ hcur) rfl hho, State.setFrames_setFrames, ← State.setTop_of_frames _ hfr]
  refine Steps.head ⟨hA.running, by simpa using hA.runnable, by simpa using hA.alone⟩ ⟨.java (entryFrame m #[.double b] 2) :: .java g :: mid, by rw [hfs]; rw [hfr] at hmid; simp at hmid; simp [hmid], by simp, by simp⟩ ?_
  rw [hone]
  exact hr
section
variable {p : Program} {l : Launch} {e : Env} {R : Room} {s : State} {m : MethodId} {args : Array Value} {below : List Frame} {meth : Method} {c : Code} {H : Heap} {locs : List Loc} {cells slots : Nat} {Q : State → Prop}
variable {cc : ByteArray} {pc : Nat} {ls : Array Slot} {rest : List Value}
theorem vn_absD (hexec : p.tables.exec = Jvm.exec) (hb : c.code = cc) (hml : c.maxLocals = ls.size) {own : String} {index : Nat} (hown : s.vm.findClass own = some m.cls) {cA : ByteArray} {y : MethodName} (hy : y = ⟨"java/lang/Math", "abs", "(D)D"⟩) (hlink : (Cond.methodLink own index y).before args s = true) (hcode : (Cond.code y cA 2 (some .double)).before args s = true) (hstat : (Cond.static y).before args s = true) (hinit : (Cond.initialized "java/lang/Math").before args s = true) {b : UInt64} (hn : vf_n64 b)
    (hframes : 1 ≤ R.frames) (hlocals : (rest.map fun v => v.category).sum + 13 ≤ R.locals) (hdg : decode cc pc = .ok (.invokestatic index, 3))
    (k : W p l e R s m args below meth c H locs cells slots Q (F0 m (pc + 3) ls (.double (b &&& 0x7fffffffffffffff) :: rest))) : W p l e R s m args below meth c H locs cells slots Q (F0 m pc ls (.double b :: rest)) := by
  subst hy
  intro T hT X
  obtain ⟨m', hnm⟩ : ∃ m', s.methodNamed? ⟨"java/lang/Math", "abs", "(D)D"⟩ = some m' := by
    cases h : s.methodNamed? ⟨"java/lang/Math", "abs", "(D)D"⟩ with
    | none => simp [Cond.before, Cond.holds, Cond.value, h] at hcode
    | some m' => exact ⟨m', rfl⟩
  obtain ⟨me, cm, hme, hcm, -, hml2, -, hlk, -, hsg⟩ := Cond.code_spec hnm hcode
  obtain ⟨kc, hkc, hkn⟩ := className_of_methodNamed hnm
  obtain ⟨hmn, hmd⟩ := name_of_methodNamed hnm hme
  have hin := Cond.initialized_spec (findClass_of_methodNamed hnm) hkc hinit
  have hst := Cond.static_spec hnm hme hstat
  have hbo : kc.loader = none := Vm.bootOf_findClass (findClass_of_methodNamed hnm) hkc
  have hp1 : me.sig.parameters = [.double] := by
    have h3 : parseMethodDescriptor "(D)D" = some me.sig := hsg
    rw [show parseMethodDescriptor "(D)D" = some { parameters := [.double], returnType := some .double } from by decide +kernel] at h3
    rw [← Option.some.inj h3]
  obtain ⟨vm', X', st⟩ := X.invokestatic hexec hown hlink hnm hme hst hkc hin (by decide) (g := F0 m pc ls (.double b :: rest)) rfl (argsL := [.double b]) (rest := rest) (by rw [hp1]; rfl) rfl (by rw [hb]; exact hdg)
  obtain ⟨t, a1, b1⟩ := k (T.setVm vm') hT X'
  refine ⟨t, st t fun acts => ?_, b1⟩
  have alike := X'.warmed.alike
  obtain ⟨k2, hk2, he2⟩ := alike.2.2 _ _ hkc
  exact st_abs p (g := F0 m pc ls rest) X'.here acts (k := k2) hk2 (by rw [he2]; exact hbo) (by rw [he2]; exact hkn) (by rw [alike.method?]; exact hme) hmn hmd (by rw [hp1]; rfl) hcm hml2 hlk (X'.notFull (g := F0 m pc ls rest) (by show ls.size = c.maxLocals; exact hml.symm) (vars := cm.maxLocals) hframes (by rw [hml2]; show 2 * 0 + (rest.map fun v => v.category).sum + (2 + 11) ≤ R.locals; omega)) hn (by rw [hb]; exact hdg) a1
end
