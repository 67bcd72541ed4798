/-! How sure a vote is: the numbers, one by one. -/
def ab64 (x : UInt64) : UInt64 := (x.toInt64 &&& 9223372036854775807).toUInt64
def fpQ (u v : Nat) : UInt64 := FP.ddiv (FP.i2d (nI u)) (FP.i2d (nI (v + u)))
def fpS (u v : Nat) : UInt64 := FP.dsub FP.dconst1 (fpQ u v)
def fpR (u v : Nat) : UInt64 := FP.dsub FP.dconst1 (fpS u v)
def fpP (u v : Nat) : UInt64 := FP.dmul (fpR u v) (FP.i2d (nI (v + u)))
def fpD (u v : Nat) : UInt64 := FP.dsub (fpP u v) (FP.i2d (nI u))
def fpT (u v : Nat) : Bool := !FP.Core.dIsNaN (fpR u v) && !FP.Core.dIsNaN (fpP u v) && !FP.Core.dIsNaN (fpD u v) && (FP.dcmp (ab64 (fpD u v)) 4547007122018943789 != some .gt)
