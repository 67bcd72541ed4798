/-! How sure a vote is: the numbers, one by one. -/
def ab64 (x : UInt64) : UInt64 := (x.toInt64 &&& 9223372036854775807).toUInt64
def fpQ (u v : Nat) : UInt64 := FP.ddiv (FP.i2d (nI u)) (FP.i2d (nI (v + u)))
def fpS (u v : Nat) : UInt64 := FP.dsub FP.dconst1 (fpQ u v)
def fpR (u v : Nat) : UInt64 := FP.dsub FP.dconst1 (fpS u v)
def fpP (u v : Nat) : UInt64 := FP.dmul (fpR u v) (FP.i2d (nI (v + u)))
def fpD (u v : Nat) : UInt64 := FP.dsub (fpP u v) (FP.i2d (nI u))
def fpT (u v : Nat) : Bool := !FP.Core.dIsNaN (fpR u v) && !FP.Core.dIsNaN (fpP u v) && !FP.Core.dIsNaN (fpD u v) && (FP.dcmp (ab64 (fpD u v)) 4547007122018943789 != some .gt)
theorem ab_eq (d : UInt64) : ab64 d = d &&& 0x7fffffffffffffff := by
  unfold ab64
  rw [Int64.toUInt64_and, UInt64.toUInt64_toInt64]
  rfl
theorem sn_ok {d : UInt64} (h : FP.Core.dIsNaN d = false) : vn_snl2d (d.toInt64 &&& 9223372036854775807) = false := by
  have h1 := n64 h
  unfold vf_n64 at h1
  unfold vn_snl2d
  have e : (d.toInt64 &&& 9223372036854775807).toUInt64 &&& 0x7fffffffffffffff = d &&& 0x7fffffffffffffff := by
    rw [show (d.toInt64 &&& 9223372036854775807).toUInt64 = d &&& 0x7fffffffffffffff from ab_eq d, UInt64.and_assoc]
    rfl
  rw [e, Bool.and_eq_false_iff]
  exact Or.inl (decide_eq_false (UInt64.not_lt.mpr h1))
theorem cmpG2 {a b : UInt64} (h : FP.dcmp a b ≠ some .lt) : ¬ Op.cmpValue (FP.dcmp a b) .g < 0 := by
  cases hh : FP.dcmp a b with
  | none => decide
  | some o =>
    cases o with
    | lt => exact absurd hh h
    | eq => decide
    | gt => decide
theorem cmpL2 {a b : UInt64} (h : FP.dcmp a b ≠ some .gt) : Op.cmpValue (FP.dcmp a b) .l ≤ 0 := by
  cases hh : FP.dcmp a b with
  | none => decide
  | some o =>
    cases o with
    | lt => decide
    | eq => decide
    | gt => exact absurd hh h
theorem fp_ok {u v : Nat} (hu : u ≤ 400) (hv : v ≤ 400) (h : v + u ≠ 0) : FP.Core.dIsNaN (fpR u v) = false ∧ FP.Core.dIsNaN (fpP u v) = false ∧ FP.Core.dIsNaN (fpD u v) = false ∧ FP.dcmp (ab64 (fpD u v)) 4547007122018943789 ≠ some .gt := sorry
