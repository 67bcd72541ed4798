/-! What the bench answers, by its numbers. -/
def ow {α : Type} (cd : Nat) (a b : α) : α := if cd = 2 then a else b
theorem ow_g {α : Type} {cd : Nat} {a b : α} (h : cd = 2) : ow cd a b = a := if_pos h
theorem ow_p {α : Type} {cd : Nat} {a b : α} (h : ¬ cd = 2) : ow cd a b = b := if_neg h
def oT (cd n tc vl un rd ns ng st cu gd : Nat) (ws : Int32) (wh : Nat) : Int32 := match wh with
  | 0 => nI cd
  | 1 => nI n
  | 2 => nI tc
  | 3 => nI vl
  | 4 => nI un
  | 5 => nI ns
  | 6 => nI ng
  | 7 => nI st
  | 8 => nI cu
  | 9 => nI gd
  | 10 => nI rd
  | _ => ws
def oC (fb fw fk fd : Nat → Int32) (i wh : Nat) : Int32 := match wh with
  | 0 => fb i
  | 1 => fw i
  | 2 => nI (if fk i = nI 0 then 0 else 1)
  | _ => nI (dT (fd i))
def mN (nt sp dw rds shd pcs rcs wh : Nat) : Int32 := match wh with
  | 0 => nI nt
  | 1 => nI sp
  | 2 => nI dw
  | 3 => nI rds
  | 4 => nI shd
  | 5 => nI pcs
  | _ => nI rcs
def sureF (tc vl un : Nat) : UInt64 := if tc = 0 ∨ vl + un = 0 then FP.dconst0 else FP.dsub FP.dconst1 (FP.ddiv (FP.i2d (nI un)) (FP.i2d (nI (vl + un))))
theorem fin1 : FP.Core.DFin FP.dconst1 := (FP.Core.fin_bits _).mpr (by decide +kernel)
def wl (g q : Nat) : Int32 := nI g &&& ((if 300 < q then nI 32 else nI 0) ^^^ (-1))
def foldD (g : Nat → Int32) : Nat → Int64 → Int64
  | 0, d => d
  | k + 1, d => foldD g k d * 31 + (g k).toInt64
/-- two numbers for each k -/
def foldD2 (g g2 : Nat → Int32) : Nat → Int64 → Int64
  | 0, d => d
  | k + 1, d => (foldD2 g g2 k d * 31 + (g k).toInt64) * 31 + (g2 k).toInt64
/-- rows of nine numbers -/
def foldR (g : Nat → Int32) : Nat → Int64 → Int64
  | 0, d => d
  | k + 1, d => foldD (fun j => g (k * 9 + j)) 9 (foldR g k d)
theorem narZ {b : Nat} (h : b ≤ 1) : narrow .boolean (.int (nI b)) = .int (nI b) := by
  rcases (show b = 0 ∨ b = 1 by omega) with rfl | rfl <;> rfl
theorem tuS_P {Q : UInt64 → Prop} {a b c : UInt64} (ha : Q a) (hb : Q b) (hc : Q c) (k : Nat) : Q (tuS a b c k) := by
  unfold tuS
  split
  · exact ha
  · split
    · exact hb
    · exact hc
