/-! How sure a vote is: the numbers, one by one. -/
def ab64 (x : UInt64) : UInt64 := (x.toInt64 &&& 9223372036854775807).toUInt64
def fpQ (u v : Nat) : UInt64 := FP.ddiv (FP.i2d (nI u)) (FP.i2d (nI (v + u)))
def fpS (u v : Nat) : UInt64 := FP.dsub FP.dconst1 (fpQ u v)
def fpR (u v : Nat) : UInt64 := FP.dsub FP.dconst1 (fpS u v)
def fpP (u v : Nat) : UInt64 := FP.dmul (fpR u v) (FP.i2d (nI (v + u)))
def fpD (u v : Nat) : UInt64 := FP.dsub (fpP u v) (FP.i2d (nI u))
def fpT (u v : Nat) : Bool := !FP.Core.dIsNaN (fpR u v) && !FP.Core.dIsNaN (fpP u v) && !FP.Core.dIsNaN (fpD u v) && (FP.dcmp (ab64 (fpD u v)) 4547007122018943789 != some .gt)
theorem ab_eq (d : UInt64) : ab64 d = d &&& 0x7fffffffffffffff := by
  unfold ab64
  rw [Int64.toUInt64_and, UInt64.toUInt64_toInt64]
  rfl
theorem sn_ok {d : UInt64} (h : FP.Core.dIsNaN d = false) : vn_snl2d (d.toInt64 &&& 9223372036854775807) = false := by
  have h1 := n64 h
  unfold vf_n64 at h1
  unfold vn_snl2d
  have e : (d.toInt64 &&& 9223372036854775807).toUInt64 &&& 0x7fffffffffffffff = d &&& 0x7fffffffffffffff := by
    rw [show (d.toInt64 &&& 9223372036854775807).toUInt64 = d &&& 0x7fffffffffffffff from ab_eq d, UInt64.and_assoc]
    rfl
  rw [e, Bool.and_eq_false_iff]
  exact Or.inl (decide_eq_false (UInt64.not_lt.mpr h1))
theorem cmpG2 {a b : UInt64} (h : FP.dcmp a b ≠ some .lt) : ¬ Op.cmpValue (FP.dcmp a b) .g < 0 := by
  cases hh : FP.dcmp a b with
  | none => decide
  | some o =>
    cases o with
    | lt => exact absurd hh h
    | eq => decide
    | gt => decide
theorem cmpL2 {a b : UInt64} (h : FP.dcmp a b ≠ some .gt) : Op.cmpValue (FP.dcmp a b) .l ≤ 0 := by
  cases hh : FP.dcmp a b with
  | none => decide
  | some o =>
    cases o with
    | lt => decide
    | eq => decide
    | gt => exact absurd hh h
/-! The rounding of numbers up to 1000: at most a step of 2^-43 each. -/
section fpr
def zv (a : UInt64) : Int := FP.Core.zval FP.Core.b64 (FP.Core.val64 a)
theorem c1024 : FP.Core.zmag FP.Core.b64 (FP.Core.val64 4652218415073722368) = 1024 * 2 ^ 1074 := by decide +kernel
theorem c1024n : FP.Core.val64 4652218415073722368 ≠ .nan := by decide +kernel
theorem top_gt : ¬ FP.Core.b64.tails * 2 ^ (FP.Core.b64.exps - 2) ≤ 1024 * 2 ^ 1074 := by decide +kernel
theorem qm64 : FP.Core.b64.qmin = -1074 := by decide +kernel
theorem qx64 : FP.Core.b64.qmax = 971 := by decide +kernel
theorem pw2148 : (2 : Nat) ^ (FP.Core.b64.qmin - (-2148)).toNat = 2 ^ 1074 := by rw [qm64]; rfl
theorem p2105 : (2 : Nat) ^ 2148 = 2 ^ 43 * 2 ^ 2105 := by rw [← Nat.pow_add]
theorem p2105b : (2 : Nat) ^ 2105 = 2 ^ 1031 * 2 ^ 1074 := by rw [← Nat.pow_add]
theorem p2148b : (2 : Nat) ^ 2148 = 2 ^ 1074 * 2 ^ 1074 := by rw [← Nat.pow_add]
theorem p1074 : (2 : Nat) ^ 1074 = 2 ^ 43 * 2 ^ 1031 := by rw [← Nat.pow_add]
theorem rnd {s : Bool} {A B : Nat} {e : Int} (hB : 0 < B) (he : (-2148 : Int) ≤ e) (hx : FP.Core.inUnits A e (-2148) ≤ 1000 * 2 ^ 2148 * B) :
    ∃ c q, FP.Core.roundRatio FP.Core.b64 s A B e = .fin s c q ∧ FP.Core.inUnits A e (-2148) ≤ FP.Core.zmag FP.Core.b64 (.fin s c q) * 2 ^ 1074 * B + 2 ^ 2105 * B ∧ FP.Core.zmag FP.Core.b64 (.fin s c q) * 2 ^ 1074 * B ≤ FP.Core.inUnits A e (-2148) + 2 ^ 2105 * B := by
  have h0 : (-2148 : Int) ≤ FP.Core.b64.qmin := by rw [qm64]; decide
  rcases FP.Core.roundRatio_cases FP.Core.b64 s A B e with ⟨c, q, hR⟩ | hR
  · refine ⟨c, q, hR, ?_⟩
    have hf := FP.Core.roundRatio_fits FP.Core.good_b64 s A hB e
    rw [hR] at hf
    have hu := FP.Core.units_fin hf h0
    rw [pw2148] at hu
    have hP : 0 < 2 ^ 2105 * B := Nat.mul_pos (Nat.two_pow_pos _) hB
    have hc : FP.Core.inUnits A e (-2148) / (2 ^ 2105 * B) < 2 ^ FP.Core.b64.p := by
      rw [Nat.div_lt_iff_lt_mul hP, show FP.Core.b64.p = 53 from rfl]
      refine Nat.lt_of_le_of_lt hx ?_
      rw [p2105, ← Nat.mul_assoc 1000, Nat.mul_assoc (1000 * 2 ^ 43)]
      exact Nat.mul_lt_mul_of_pos_right (by decide) hP
    have hd := FP.Core.roundRatio_nearest FP.Core.good_b64 (s := s) (e0 := -2148) hB hR hc (q' := -43) (by rw [qm64]; decide) h0 he
    unfold FP.Core.distance at hd
    rw [hu] at hd
    have h1 : ∀ n : Nat, FP.Core.inUnits n (-43) (-2148) = n * 2 ^ 2105 := fun n => rfl
    rw [h1] at hd
    have h2 := Nat.div_add_mod (FP.Core.inUnits A e (-2148)) (2 ^ 2105 * B)
    have h3 := Nat.mod_lt (FP.Core.inUnits A e (-2148)) hP
    generalize FP.Core.inUnits A e (-2148) = x at *
    generalize FP.Core.zmag FP.Core.b64 (.fin s c q) * 2 ^ 1074 = z at *
    generalize x / (2 ^ 2105 * B) = k at *
    generalize x % (2 ^ 2105 * B) = r at *
    rw [← Int.natCast_mul, ← Int.natCast_mul, Nat.mul_assoc, Nat.mul_comm k] at hd
    generalize z * B = zB at *
    generalize 2 ^ 2105 * B = PB at *
    generalize PB * k = Pk at *
    omega
  · exfalso
    have h1 := FP.Core.zmag_roundRatio_le FP.Core.good_b64 (s := s) (e0 := -2148) hB (FP.Core.val64_fits 4652218415073722368) c1024n h0 he (by
      rw [c1024, pw2148]
      refine Nat.le_trans hx (Nat.mul_le_mul_right _ ?_)
      rw [p2148b, ← Nat.mul_assoc]
      exact Nat.mul_le_mul_right _ (Nat.mul_le_mul_right _ (by decide)))
    rw [hR, c1024] at h1
    exact top_gt h1
theorem sgl {s : Bool} {x y d : Nat} (h1 : x ≤ y + d) (h2 : y ≤ x + d) : FP.Core.signed s x ≤ FP.Core.signed s y + (d : Int) ∧ FP.Core.signed s y ≤ FP.Core.signed s x + (d : Int) := by
  cases s
  · show (x : Int) ≤ (y : Int) + d ∧ (y : Int) ≤ (x : Int) + d
    omega
  · show -(x : Int) ≤ -(y : Int) + d ∧ -(y : Int) ≤ -(x : Int) + d
    omega
theorem of_small {a : UInt64} {s : Bool} {c : Nat} {q : Int} (hv : FP.Core.val64 a = FP.Core.round FP.Core.b64 (.fin s c q)) (hq : (-2148 : Int) ≤ q) (hx : FP.Core.inUnits c q (-2148) ≤ 1000 * 2 ^ 2148) :
    FP.Core.DFin a ∧ FP.Core.signed s (FP.Core.inUnits c q (-2148)) ≤ zv a * ((2 ^ 1074 : Nat) : Int) + ((2 ^ 2105 : Nat) : Int) ∧ zv a * ((2 ^ 1074 : Nat) : Int) ≤ FP.Core.signed s (FP.Core.inUnits c q (-2148)) + ((2 ^ 2105 : Nat) : Int) := by
  obtain ⟨c', q', hR, h1, h2⟩ := rnd (s := s) (A := c) (B := 1) (e := q) Nat.one_pos hq (by rw [Nat.mul_one]; exact hx)
  have hv' : FP.Core.val64 a = .fin s c' q' := hv.trans hR
  refine ⟨⟨s, c', q', hv'⟩, ?_⟩
  rw [Nat.mul_one, Nat.mul_one] at h1
  rw [Nat.mul_one, Nat.mul_one] at h2
  have h3 := sgl (s := s) h1 h2
  rw [FP.Core.signed_mul] at h3
  rw [show zv a = FP.Core.signed s (FP.Core.zmag FP.Core.b64 (.fin s c' q')) from by rw [zv, hv']; rfl]
  exact ⟨h3.1, h3.2⟩
theorem units2 {c : Nat} {q : Int} {s : Bool} (h : FP.Core.fits FP.Core.b64 (.fin s c q)) : FP.Core.inUnits c q (-2148) = FP.Core.zmag FP.Core.b64 (.fin s c q) * 2 ^ 1074 := by
  rw [FP.Core.units_fin h (by rw [qm64]; decide), pw2148]
theorem nab {v : Int} {m : Nat} (h1 : v ≤ (m : Int)) (h2 : -(m : Int) ≤ v) : v.natAbs ≤ m := by omega
theorem cut {x y d : Int} {m : Nat} (hm : 0 < m) (h1 : x * (m : Int) ≤ y * (m : Int) + d * (m : Int)) : x ≤ y + d := by
  rw [← Int.add_mul] at h1
  exact Int.le_of_mul_le_mul_right h1 (by omega)
theorem sgabs {sg : Bool} {n : Nat} {v : Int} (h : FP.Core.signed sg n = v) : n = v.natAbs := by
  cases sg
  · have : (n : Int) = v := h
    omega
  · have : -(n : Int) = v := h
    omega
theorem sub_ok {a b : UInt64} (ha : FP.Core.DFin a) (hb : FP.Core.DFin b) (h1 : zv a - zv b ≤ ((1000 * 2 ^ 1074 : Nat) : Int)) (h2 : -((1000 * 2 ^ 1074 : Nat) : Int) ≤ zv a - zv b) :
    FP.Core.DFin (FP.Core.dsub a b) ∧ zv a - zv b ≤ zv (FP.Core.dsub a b) + ((2 ^ 1031 : Nat) : Int) ∧ zv (FP.Core.dsub a b) ≤ zv a - zv b + ((2 ^ 1031 : Nat) : Int) := by
  obtain ⟨s, c, q, hva⟩ := ha
  obtain ⟨t, d, r, hvb⟩ := hb
  have fa := FP.Core.val64_fits a
  have fb := FP.Core.val64_fits b
  rw [hva] at fa
  rw [hvb] at fb
  have za : zv a = FP.Core.signed s (FP.Core.zmag FP.Core.b64 (.fin s c q)) := by rw [zv, hva]; rfl
  have zb : zv b = FP.Core.signed t (FP.Core.zmag FP.Core.b64 (.fin t d r)) := by rw [zv, hvb]; rfl
  have hq := fa.2.1
  have hr := fb.2.1
  rw [qm64] at hq hr
  have hv : FP.Core.val64 (FP.Core.dsub a b) = FP.Core.round FP.Core.b64 (.fin (FP.Core.sumSign s (!t) (FP.Core.sumUnits s c q (!t) d r (min q r))) (FP.Core.sumUnits s c q (!t) d r (min q r)).natAbs (min q r)) := by
    rw [FP.Core.val64_dsub, hva, hvb]
    rfl
  have hmn : (-2148 : Int) ≤ min q r := by clear h1 h2; omega
  have hsg : FP.Core.signed (FP.Core.sumSign s (!t) (FP.Core.sumUnits s c q (!t) d r (min q r))) (FP.Core.inUnits (FP.Core.sumUnits s c q (!t) d r (min q r)).natAbs (min q r) (-2148)) = (zv a - zv b) * ((2 ^ 1074 : Nat) : Int) := by
    unfold FP.Core.inUnits
    rw [FP.Core.signed_mul, FP.Core.signed_sumSign]
    unfold FP.Core.sumUnits
    rw [Int.add_mul, ← FP.Core.signed_mul, ← FP.Core.signed_mul]
    have e1 : FP.Core.inUnits c q (min q r) * 2 ^ (min q r - (-2148)).toNat = FP.Core.zmag FP.Core.b64 (.fin s c q) * 2 ^ 1074 := by
      rw [← FP.Core.inUnits_move c hmn (by omega), units2 fa]
    have e2 : FP.Core.inUnits d r (min q r) * 2 ^ (min q r - (-2148)).toNat = FP.Core.zmag FP.Core.b64 (.fin t d r) * 2 ^ 1074 := by
      rw [← FP.Core.inUnits_move d hmn (by omega), units2 fb]
    rw [e1, e2, za, zb, FP.Core.signed_mul, FP.Core.signed_mul, FP.Core.signed_not, Int.sub_mul, Int.neg_mul]
    rfl
  have hle : FP.Core.inUnits (FP.Core.sumUnits s c q (!t) d r (min q r)).natAbs (min q r) (-2148) ≤ 1000 * 2 ^ 2148 := by
    rw [sgabs hsg, Int.natAbs_mul, p2148b, ← Nat.mul_assoc]
    exact Nat.mul_le_mul (nab h1 h2) (Nat.le_refl _)
  obtain ⟨g1, g2, g3⟩ := of_small hv hmn hle
  rw [hsg, p2105b, Int.natCast_mul] at g2 g3
  exact ⟨g1, cut (Nat.two_pow_pos 1074) g2, cut (Nat.two_pow_pos 1074) g3⟩
theorem mul_ok {a b : UInt64} (ha : FP.Core.DFin a) (hb : FP.Core.DFin b) (h1 : zv a * zv b ≤ ((1000 * 2 ^ 2148 : Nat) : Int)) (h2 : -((1000 * 2 ^ 2148 : Nat) : Int) ≤ zv a * zv b) :
    FP.Core.DFin (FP.Core.dmul a b) ∧ zv a * zv b ≤ zv (FP.Core.dmul a b) * ((2 ^ 1074 : Nat) : Int) + ((2 ^ 2105 : Nat) : Int) ∧ zv (FP.Core.dmul a b) * ((2 ^ 1074 : Nat) : Int) ≤ zv a * zv b + ((2 ^ 2105 : Nat) : Int) := by
  obtain ⟨s, c, q, hva⟩ := ha
  obtain ⟨t, d, r, hvb⟩ := hb
  have fa := FP.Core.val64_fits a
  have fb := FP.Core.val64_fits b
  rw [hva] at fa
  rw [hvb] at fb
  have za : zv a = FP.Core.signed s (FP.Core.zmag FP.Core.b64 (.fin s c q)) := by rw [zv, hva]; rfl
  have zb : zv b = FP.Core.signed t (FP.Core.zmag FP.Core.b64 (.fin t d r)) := by rw [zv, hvb]; rfl
  have hq := fa.2.1
  have hr := fb.2.1
  rw [qm64] at hq hr
  have hv : FP.Core.val64 (FP.Core.dmul a b) = FP.Core.round FP.Core.b64 (.fin (s != t) (c * d) (q + r)) := by
    rw [FP.Core.val64_dmul, hva, hvb]
    rfl
  have hun : FP.Core.inUnits (c * d) (q + r) (-2148) = FP.Core.zmag FP.Core.b64 (.fin s c q) * FP.Core.zmag FP.Core.b64 (.fin t d r) := by
    show c * d * 2 ^ (q + r - (-2148)).toNat = c * 2 ^ (q - FP.Core.b64.qmin).toNat * (d * 2 ^ (r - FP.Core.b64.qmin).toNat)
    rw [qm64, show (q + r - (-2148)).toNat = (q - (-1074)).toNat + (r - (-1074)).toNat from by clear h1 h2; omega, Nat.pow_add]
    ac_rfl
  have hsg : FP.Core.signed (s != t) (FP.Core.inUnits (c * d) (q + r) (-2148)) = zv a * zv b := by
    rw [hun, FP.Core.signed_xor, za, zb]
  have hle : FP.Core.inUnits (c * d) (q + r) (-2148) ≤ 1000 * 2 ^ 2148 := by
    rw [sgabs hsg]
    exact nab h1 h2
  have hqr : (-2148 : Int) ≤ q + r := by clear h1 h2 hle hsg hun; omega
  obtain ⟨g1, g2, g3⟩ := of_small hv hqr hle
  rw [hsg] at g2 g3
  exact ⟨g1, g2, g3⟩
theorem posneg {x y : Nat} (h : (x : Int) = -(y : Int)) : x = 0 ∧ y = 0 := by omega
theorem div_core {x n u d O G R : Nat} (hO : 0 < O) (hd : 0 < d) (hx : x * n = u * (d * (O * O))) (g1 : x ≤ R * O * d + G * O * d) (g2 : R * O * d ≤ x + G * O * d) : u * O ≤ R * n + n * G ∧ R * n ≤ u * O + n * G := by
  have hdO := Nat.mul_pos hd hO
  constructor
  · refine Nat.le_of_mul_le_mul_right ?_ hdO
    have h3 := Nat.mul_le_mul_right n g1
    rw [hx] at h3
    calc u * O * (d * O) = u * (d * (O * O)) := by ac_rfl
      _ ≤ (R * O * d + G * O * d) * n := h3
      _ = _ := by rw [Nat.add_mul, Nat.add_mul]; ac_rfl
  · refine Nat.le_of_mul_le_mul_right ?_ hdO
    have h3 := Nat.mul_le_mul_right n g2
    rw [Nat.add_mul, hx] at h3
    calc R * n * (d * O) = R * O * d * n := by ac_rfl
      _ ≤ u * (d * (O * O)) + G * O * d * n := h3
      _ = _ := by rw [Nat.add_mul]; ac_rfl
theorem div_small {x n u d T : Nat} (h0 : 0 < n) (hun : u ≤ n) (hx : x * n = u * (d * T)) : x ≤ 1000 * T * d := by
  refine Nat.le_of_mul_le_mul_right ?_ h0
  rw [hx]
  calc u * (d * T) ≤ n * (d * T) := Nat.mul_le_mul_right _ hun
    _ = T * d * n := by ac_rfl
    _ ≤ 1000 * T * d * n := by
      refine Nat.mul_le_mul_right _ (Nat.mul_le_mul_right _ ?_)
      exact Nat.le_mul_of_pos_left _ (by decide)
theorem div_units {c d n u : Nat} {i j k T O : Nat} (e : i + j = k + T) (hn : d * 2 ^ j = n * O) (hu : c * 2 ^ k = u * O) (hO : 0 < O) : c * 2 ^ i * n = u * (d * 2 ^ T) := by
  refine Nat.eq_of_mul_eq_mul_right hO ?_
  have e2 : (2 : Nat) ^ i * 2 ^ j = 2 ^ k * 2 ^ T := by rw [← Nat.pow_add, ← Nat.pow_add, e]
  calc c * 2 ^ i * n * O = c * 2 ^ i * (n * O) := Nat.mul_assoc _ _ _
    _ = c * 2 ^ i * (d * 2 ^ j) := by rw [hn]
    _ = c * d * (2 ^ i * 2 ^ j) := by ac_rfl
    _ = c * d * (2 ^ k * 2 ^ T) := by rw [e2]
    _ = c * 2 ^ k * (d * 2 ^ T) := by ac_rfl
    _ = u * O * (d * 2 ^ T) := by rw [hu]
    _ = _ := by ac_rfl
theorem sg_w {s : Bool} {w : Nat} (h : s = true → w = 0) : FP.Core.signed (s != false) w = (w : Int) := by
  cases s
  · rfl
  · rw [h rfl]; rfl
theorem div_ok {a b : UInt64} {u n : Nat} (ha : FP.Core.DFin a) (hb : FP.Core.DFin b) (hu : zv a = (u : Int) * ((2 ^ 1074 : Nat) : Int)) (hn : zv b = (n : Int) * ((2 ^ 1074 : Nat) : Int)) (h0 : 0 < n) (hun : u ≤ n) :
    FP.Core.DFin (FP.Core.ddiv a b) ∧ (u : Int) * ((2 ^ 1074 : Nat) : Int) ≤ zv (FP.Core.ddiv a b) * (n : Int) + (n : Int) * ((2 ^ 1031 : Nat) : Int) ∧ zv (FP.Core.ddiv a b) * (n : Int) ≤ (u : Int) * ((2 ^ 1074 : Nat) : Int) + (n : Int) * ((2 ^ 1031 : Nat) : Int) := by
  obtain ⟨s, c, q, hva⟩ := ha
  obtain ⟨t, d, r, hvb⟩ := hb
  have fa := FP.Core.val64_fits a
  have fb := FP.Core.val64_fits b
  rw [hva] at fa
  rw [hvb] at fb
  have za : zv a = FP.Core.signed s (FP.Core.zmag FP.Core.b64 (.fin s c q)) := by rw [zv, hva]; rfl
  have zb : zv b = FP.Core.signed t (FP.Core.zmag FP.Core.b64 (.fin t d r)) := by rw [zv, hvb]; rfl
  have hq := fa.2.1
  have hr := fb.2.1
  have hr2 := fb.2.2.1
  rw [qm64] at hq hr
  rw [qx64] at hr2
  have hmc : FP.Core.zmag FP.Core.b64 (.fin s c q) = c * 2 ^ (q - (-1074)).toNat := by rw [← qm64]; rfl
  have hmd : FP.Core.zmag FP.Core.b64 (.fin t d r) = d * 2 ^ (r - (-1074)).toNat := by rw [← qm64]; rfl
  have hun2 : FP.Core.inUnits c (q - r) (-2148) = c * 2 ^ (q - r - (-2148)).toNat := rfl
  have hv : d ≠ 0 → FP.Core.val64 (FP.Core.ddiv a b) = FP.Core.roundRatio FP.Core.b64 (s != t) c d (q - r) := by
    intro hd
    rw [FP.Core.val64_ddiv, hva, hvb]
    exact if_neg hd
  have e1 : (q - r - (-2148)).toNat + (r - (-1074)).toNat = (q - (-1074)).toNat + 2148 := by clear hu hn za zb; omega
  have he : (-2148 : Int) ≤ q - r := by clear hu hn za zb; omega
  have hp2 := p2148b
  have hp5 := p2105b
  have hO : 0 < 2 ^ 1074 := Nat.two_pow_pos 1074
  rw [hu] at za
  rw [hn] at zb
  generalize hOe : (2 : Nat) ^ 1074 = O at *
  rw [← Int.natCast_mul] at za zb
  have hnp : 0 < n * O := Nat.mul_pos h0 hO
  have ht : t = false ∧ d * 2 ^ (r - (-1074)).toNat = n * O := by
    rw [hmd] at zb
    generalize d * 2 ^ (r - (-1074)).toNat = y at *
    generalize n * O = w at *
    cases t
    · exact ⟨rfl, Int.ofNat_inj.mp (show (y : Int) = (w : Int) from zb.symm)⟩
    · exact absurd (posneg (show (w : Int) = -(y : Int) from zb)).1 (Nat.ne_of_gt hnp)
  obtain ⟨rfl, hzd⟩ := ht
  have hzc : c * 2 ^ (q - (-1074)).toNat = u * O ∧ (s = true → u * O = 0) := by
    rw [hmc] at za
    generalize c * 2 ^ (q - (-1074)).toNat = y at *
    generalize u * O = w at *
    cases s
    · exact ⟨Int.ofNat_inj.mp (show (y : Int) = (w : Int) from za.symm), fun h => by cases h⟩
    · have := posneg (show (w : Int) = -(y : Int) from za)
      exact ⟨this.2.trans this.1.symm, fun _ => this.1⟩
  have hd0 : 0 < d := by
    refine Nat.pos_of_ne_zero fun h => ?_
    rw [h, Nat.zero_mul] at hzd
    rw [← hzd] at hnp
    exact Nat.lt_irrefl _ hnp
  have hx2 : FP.Core.inUnits c (q - r) (-2148) * n = u * (d * 2 ^ 2148) := by
    rw [hun2]
    exact div_units e1 hzd hzc.1 hO
  have hxle := div_small h0 hun hx2
  obtain ⟨c', q', hR, g1, g2⟩ := rnd (s := s != false) hd0 he hxle
  have hv' := (hv (Nat.pos_iff_ne_zero.mp hd0)).trans hR
  refine ⟨⟨_, c', q', hv'⟩, ?_⟩
  have hz : zv (FP.Core.ddiv a b) = FP.Core.signed (s != false) (FP.Core.zmag FP.Core.b64 (.fin (s != false) c' q')) := by rw [zv, hv']; rfl
  generalize FP.Core.zmag FP.Core.b64 (.fin (s != false) c' q') = R at *
  rw [hp2] at hx2
  rw [hp5, hOe] at g1 g2
  have hk := div_core (G := 2 ^ 1031) hO hd0 hx2 g1 g2
  have e3 := sgl (s := s != false) hk.1 hk.2
  rw [FP.Core.signed_mul (s != false) R n, ← hz] at e3
  have hsu : FP.Core.signed (s != false) (u * O) = (u : Int) * (O : Int) := (sg_w hzc.2).trans (Int.natCast_mul _ _)
  rw [hsu, Int.natCast_mul n] at e3
  exact e3
theorem c1e4 : ((2402 * 2 ^ 1031 : Nat) : Int) ≤ zv 4547007122018943789 := by decide +kernel
theorem c1e4n : FP.Core.val64 4547007122018943789 ≠ .nan := by decide +kernel
theorem zv1 : zv FP.dconst1 = ((2 ^ 1074 : Nat) : Int) := by decide +kernel
theorem fin1r : FP.Core.DFin FP.dconst1 := ⟨_, _, _, rfl⟩
theorem ab_zv {a : UInt64} (h : FP.Core.DFin a) {M : Int} (h1 : zv a ≤ M) (h2 : -M ≤ zv a) : FP.Core.val64 (a &&& 0x7fffffffffffffff) ≠ .nan ∧ zv (a &&& 0x7fffffffffffffff) ≤ M := by
  have hn := h.ne_nan
  have hm : (a &&& 0x7fffffffffffffff).toNat = a.toNat % 2 ^ 63 := FP.Core.mask_toNat a
  have hb : FP.Core.dIsNaN (a &&& 0x7fffffffffffffff) = false := by
    have h3 := (FP.Core.notNaN_iff a).mpr hn
    cases hh : FP.Core.dIsNaN (a &&& 0x7fffffffffffffff) with
    | false => rfl
    | true =>
      have h4 := (FP.Core.isNaN_bits _).mp hh
      rw [hm, Nat.mod_mod] at h4
      rw [(FP.Core.isNaN_bits a).mpr h4] at h3
      cases h3
  have hn2 := (FP.Core.notNaN_iff _).mp hb
  refine ⟨hn2, ?_⟩
  have e1 := FP.Core.zmag_bits hn
  have e2 := FP.Core.zmag_bits hn2
  rw [hm, Nat.mod_mod, ← e1] at e2
  unfold zv FP.Core.zval at *
  rw [e2]
  generalize FP.Core.zmag FP.Core.b64 (FP.Core.val64 a) = y at *
  cases FP.Core.sgn (FP.Core.val64 a) <;> cases FP.Core.sgn (FP.Core.val64 (a &&& 0x7fffffffffffffff)) <;> simp only [FP.Core.signed, if_true, if_false, Bool.false_eq_true] at h1 h2 ⊢ <;> omega
end fpr
theorem fp_ok {u v : Nat} (hu : u ≤ 400) (hv : v ≤ 400) (h : v + u ≠ 0) : FP.Core.dIsNaN (fpR u v) = false ∧ FP.Core.dIsNaN (fpP u v) = false ∧ FP.Core.dIsNaN (fpD u v) = false ∧ FP.dcmp (ab64 (fpD u v)) 4547007122018943789 ≠ some .gt := by
  have iz : ∀ k : Nat, k ≤ 800 → zv (FP.i2d (nI k)) = (k : Int) * ((2 ^ 1074 : Nat) : Int) := by
    intro k hk
    have := i2d_zv (nI k)
    rw [nI_toInt (by omega)] at this
    exact this
  have hzu := iz u (by omega)
  have hzn := iz (v + u) (by omega)
  have fu := i2d_fin' (nI u)
  have fn := i2d_fin' (nI (v + u))
  have hn8 : v + u ≤ 800 := by omega
  have hun : u ≤ v + u := by omega
  have hn0 : 0 < v + u := by omega
  unfold fpD fpP fpR fpS fpQ
  generalize FP.i2d (nI u) = a at *
  generalize FP.i2d (nI (v + u)) = b at *
  generalize v + u = n at *
  have hdv : FP.Core.DFin (FP.ddiv a b) ∧ (u : Int) * ((2 ^ 1074 : Nat) : Int) ≤ zv (FP.ddiv a b) * (n : Int) + (n : Int) * ((2 ^ 1031 : Nat) : Int) ∧ zv (FP.ddiv a b) * (n : Int) ≤ (u : Int) * ((2 ^ 1074 : Nat) : Int) + (n : Int) * ((2 ^ 1031 : Nat) : Int) := div_ok fu fn hzu hzn hn0 hun
  obtain ⟨fq, q1, q2⟩ := hdv
  generalize FP.ddiv a b = dq at *
  have hOG : ((2 ^ 1074 : Nat) : Int) = ((2 ^ 43 : Nat) : Int) * ((2 ^ 1031 : Nat) : Int) := by rw [p1074, Int.natCast_mul]
  have hGp : (0 : Int) < ((2 ^ 1031 : Nat) : Int) := Int.ofNat_lt.mpr (Nat.two_pow_pos _)
  have h43 : ((2 ^ 43 : Nat) : Int) = 8796093022208 := rfl
  have hc1 := c1e4
  rw [Int.natCast_mul] at hc1
  have h2148 : ((1000 * 2 ^ 2148 : Nat) : Int) = 1000 * ((2 ^ 1074 : Nat) : Int) * ((2 ^ 1074 : Nat) : Int) := by rw [p2148b, ← Nat.mul_assoc, Int.natCast_mul, Int.natCast_mul]; rfl
  have h2105 : ((2 ^ 2105 : Nat) : Int) = ((2 ^ 1031 : Nat) : Int) * ((2 ^ 1074 : Nat) : Int) := by rw [p2105b, Int.natCast_mul]
  have hsb : ((1000 * 2 ^ 1074 : Nat) : Int) = 1000 * ((2 ^ 1074 : Nat) : Int) := by rw [Int.natCast_mul]; rfl
  have hdsb : ∀ {x y : UInt64}, FP.Core.DFin x → FP.Core.DFin y → zv x - zv y ≤ 1000 * ((2 ^ 1074 : Nat) : Int) → -(1000 * ((2 ^ 1074 : Nat) : Int)) ≤ zv x - zv y → FP.Core.DFin (FP.dsub x y) ∧ zv x - zv y ≤ zv (FP.dsub x y) + ((2 ^ 1031 : Nat) : Int) ∧ zv (FP.dsub x y) ≤ zv x - zv y + ((2 ^ 1031 : Nat) : Int) := fun hx hy g1 g2 => sub_ok hx hy (by rw [hsb]; exact g1) (by rw [hsb]; exact g2)
  have hdml : ∀ {x y : UInt64}, FP.Core.DFin x → FP.Core.DFin y → zv x * zv y ≤ 1000 * ((2 ^ 1074 : Nat) : Int) * ((2 ^ 1074 : Nat) : Int) → -(1000 * ((2 ^ 1074 : Nat) : Int) * ((2 ^ 1074 : Nat) : Int)) ≤ zv x * zv y → FP.Core.DFin (FP.dmul x y) ∧ zv x * zv y ≤ zv (FP.dmul x y) * ((2 ^ 1074 : Nat) : Int) + ((2 ^ 1031 : Nat) : Int) * ((2 ^ 1074 : Nat) : Int) ∧ zv (FP.dmul x y) * ((2 ^ 1074 : Nat) : Int) ≤ zv x * zv y + ((2 ^ 1031 : Nat) : Int) * ((2 ^ 1074 : Nat) : Int) := fun hx hy g1 g2 => by
    have := mul_ok hx hy (by rw [h2148]; exact g1) (by rw [h2148]; exact g2)
    rw [h2105] at this
    exact this
  clear h2148 h2105 hsb
  have h1v := zv1
  have hOp : (0 : Int) < ((2 ^ 1074 : Nat) : Int) := Int.ofNat_lt.mpr (Nat.two_pow_pos _)
  generalize ((2 ^ 1074 : Nat) : Int) = O at *
  generalize ((2 ^ 1031 : Nat) : Int) = G at *
  rw [h43] at hOG
  generalize hN : (n : Int) = N at *
  generalize hU : (u : Int) = U at *
  have hN0 : 0 < N := by omega
  have hN8 : N ≤ 800 := by omega
  have hUN : U ≤ N := by omega
  have hU0 : 0 ≤ U := by omega
  have hU4 : U ≤ 400 := by omega
  have uO : U * O ≤ N * O := Int.mul_le_mul_of_nonneg_right hUN (by omega)
  have uO0 : 0 ≤ U * O := Int.mul_nonneg hU0 (by omega)
  -- the quotient
  have Q1 : zv dq ≤ O + G := by
    refine Int.le_of_mul_le_mul_right (a := N) ?_ hN0
    rw [Int.add_mul, Int.mul_comm O, Int.mul_comm G]
    omega
  have Q2 : -G ≤ zv dq := by
    refine Int.le_of_mul_le_mul_right (a := N) ?_ hN0
    rw [Int.neg_mul, Int.mul_comm G]
    omega
  -- one minus it
  obtain ⟨fs, s1, s2⟩ := hdsb fin1r fq (by rw [h1v]; omega) (by rw [h1v]; omega)
  rw [h1v] at s1 s2
  generalize FP.dsub FP.dconst1 dq = ds at *
  obtain ⟨fr, r1, r2⟩ := hdsb fin1r fs (by rw [h1v]; omega) (by rw [h1v]; omega)
  rw [h1v] at r1 r2
  generalize FP.dsub FP.dconst1 ds = dr at *
  have R1 : zv dr ≤ zv dq + 2 * G := by omega
  have R2 : zv dq ≤ zv dr + 2 * G := by omega
  have RN1 := Int.mul_le_mul_of_nonneg_right R1 (Int.le_of_lt hN0)
  have RN2 := Int.mul_le_mul_of_nonneg_right R2 (Int.le_of_lt hN0)
  rw [Int.add_mul] at RN1 RN2
  have NG : 0 ≤ N * G := Int.mul_nonneg (by omega) (by omega)
  have NG8 : N * G ≤ 800 * G := Int.mul_le_mul_of_nonneg_right hN8 (by omega)
  have GN : 2 * G * N = 2 * (N * G) := by rw [Int.mul_assoc, Int.mul_comm G]
  rw [GN] at RN1 RN2
  have UO4 : U * O ≤ 400 * O := Int.mul_le_mul_of_nonneg_right hU4 (by omega)
  -- times the number
  have hrn : zv dr * zv b = zv dr * N * O := by rw [hzn, Int.mul_assoc]
  obtain ⟨fp, p1, p2⟩ := hdml fr fn (by rw [hrn]; exact Int.mul_le_mul_of_nonneg_right (by omega) (by omega)) (by rw [hrn, ← Int.neg_mul]; exact Int.mul_le_mul_of_nonneg_right (by omega) (by omega))
  rw [hrn, ← Int.add_mul] at p1 p2
  generalize FP.dmul dr b = dp at *
  have P1 := Int.le_of_mul_le_mul_right p1 hOp
  have P2 := Int.le_of_mul_le_mul_right p2 hOp
  obtain ⟨fd, d1, d2⟩ := hdsb fp fu (by rw [hzu]; omega) (by rw [hzu]; omega)
  rw [hzu] at d1 d2
  generalize FP.dsub dp a = dd at *
  refine ⟨fr.notNaN, fp.notNaN, fd.notNaN, ?_⟩
  obtain ⟨z1, z2⟩ := ab_zv fd (M := 2402 * G) (by omega) (by omega)
  rw [ab_eq]
  show FP.Core.dcmp _ _ ≠ _
  rw [FP.Core.dcmp_zval z1 c1e4n]
  intro hh
  have h6 := Int.compare_eq_gt.mp (Option.some.inj hh)
  have h7 : zv (dd &&& 0x7fffffffffffffff) ≤ zv 4547007122018943789 := Int.le_trans z2 hc1
  exact absurd h6 (Int.not_lt.mpr h7)
