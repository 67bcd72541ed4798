/-! The words for the state of the bench: rows of 0 and 1, counts, what is told of dirt; doubles that are periods. -/
def B01 (f : Nat → Int32) : Prop := ∀ j : Nat, ∃ b : Nat, b ≤ 1 ∧ f j = nI b
theorem B01.zero : B01 (fun _ => 0) := fun _ => ⟨0, by decide, rfl⟩
theorem B01.set {f : Nat → Int32} (h : B01 f) (k b : Nat) (hb : b ≤ 1) : B01 (upd f k (nI b)) := fun j => by
  unfold upd
  by_cases e : j = k
  · exact ⟨b, hb, by simp [e]⟩
  · obtain ⟨b', h1, h2⟩ := h j
    exact ⟨b', h1, by simp [e, h2]⟩
def cB (c : Nat) : Nat := if c = 2 then 10 else 16
theorem cB_le (c : Nat) : cB c ≤ 16 := by unfold cB; split <;> omega
theorem cB_ge (c : Nat) : 10 ≤ cB c := by unfold cB; split <;> omega
theorem cB_2 {c : Nat} (h : c = 2) : cB c = 10 := if_pos h
theorem cB_n {c : Nat} (h : ¬ c = 2) : cB c = 16 := if_neg h
def dT (x : Int32) : Nat := if x = nI 0 then 0 else if x = nI 3 then 2 else 1
def cntT (f : Nat → Int32) (t : Nat) : Nat → Nat
  | 0 => 0
  | k + 1 => cntT f t k + (if dT (f k) = t then 1 else 0)
theorem cntT_le (f : Nat → Int32) (t : Nat) : ∀ k, cntT f t k ≤ k
  | 0 => Nat.le_refl _
  | k + 1 => by
    have := cntT_le f t k
    show cntT f t k + _ ≤ k + 1
    split <;> omega
def sumW (f : Nat → Int32) : Nat → Int32
  | 0 => nI 0
  | k + 1 => sumW f k + f k
/-- what a reading does to a cell's dirt -/
def wearF (f : Nat → Int32) (i : Nat) : Nat → Int32 := if f i = nI 1 then upd f i (nI 2) else if f i = nI 2 then upd f i (nI 3) else f
/-- behind a writing: the cells from n to n2 are as wide as w, steady and clean; those ahead of them are as they were -/
def xE (n n2 : Nat) (w : Int32) (fw fw2 fk fk2 fd fd2 : Nat → Int32) : Prop := (∀ j : Nat, j < n → fw2 j = fw j ∧ fk2 j = fk j ∧ fd2 j = fd j) ∧ ∀ j : Nat, n ≤ j → j < n2 → fw2 j = w ∧ fk2 j = nI 0 ∧ fd2 j = nI 0
theorem xE.refl (n : Nat) (w : Int32) (fw fk fd : Nat → Int32) : xE n n w fw fw fk fk fd fd := ⟨fun _ _ => ⟨rfl, rfl, rfl⟩, fun j h1 h2 => absurd h1 (by omega)⟩
theorem xE.trans {n n2 n3 : Nat} {w : Int32} {fw fw2 fw3 fk fk2 fk3 fd fd2 fd3 : Nat → Int32} (h12 : n ≤ n2) (h : xE n n2 w fw fw2 fk fk2 fd fd2) (h2 : xE n2 n3 w fw2 fw3 fk2 fk3 fd2 fd3) : xE n n3 w fw fw3 fk fk3 fd fd3 := by
  refine ⟨fun j hj => ?_, fun j h3 h4 => ?_⟩
  · obtain ⟨a1, a2, a3⟩ := h.1 j hj
    obtain ⟨b1, b2, b3⟩ := h2.1 j (by omega)
    exact ⟨b1.trans a1, b2.trans a2, b3.trans a3⟩
  · by_cases hj : j < n2
    · obtain ⟨a1, a2, a3⟩ := h.2 j h3 hj
      obtain ⟨b1, b2, b3⟩ := h2.1 j hj
      exact ⟨b1.trans a1, b2.trans a2, b3.trans a3⟩
    · exact h2.2 j (by omega) h4
theorem upd_at (f : Nat → Int32) (k : Nat) (x : Int32) : upd f k x k = x := by simp [upd]
theorem upd_ne (f : Nat → Int32) {k j : Nat} (x : Int32) (h : j ≠ k) : upd f k x j = f j := by simp [upd, h]
theorem xE.put (n : Nat) (w : Int32) (fw fk fd : Nat → Int32) : xE n (n + 1) w fw (upd fw n w) fk (upd fk n (nI 0)) fd (upd fd n (nI 0)) := by
  refine ⟨fun j hj => ⟨upd_ne _ _ (by omega), upd_ne _ _ (by omega), upd_ne _ _ (by omega)⟩, fun j h1 h2 => ?_⟩
  have : j = n := by omega
  subst this
  exact ⟨upd_at _ _ _, upd_at _ _ _, upd_at _ _ _⟩
/-- a digit of a number -/
def dg (x : Int32) (k : Nat) : Int32 := (x >>> (nI k &&& 31)) &&& nI 1
/-! doubles -/
theorem n64 {a : UInt64} (h : FP.Core.dIsNaN a = false) : vf_n64 a := by
  have h1 := (FP.Core.ne_nan a).mp ((FP.Core.notNaN_iff a).mp h)
  unfold vf_n64
  rw [UInt64.le_iff_toNat_le, UInt64.toNat_and]
  have e : (0x7fffffffffffffff : UInt64).toNat = 2 ^ 63 - 1 := rfl
  rw [e, Nat.and_two_pow_sub_one_eq_mod]
  exact h1
/-- a period: a number from 6.0 to 11.0 -/
def dP (x : UInt64) : Prop := FP.Core.DFin x ∧ ¬ FP.Core.DZero x ∧ FP.dcmp x 4618441417868443648 ≠ some .lt ∧ FP.dcmp x 4622382067542392832 ≠ some .gt
theorem dP_of {x : UInt64} (hn : FP.Core.dIsNaN x = false) (h1 : FP.dcmp x 4618441417868443648 ≠ some .lt) (h2 : FP.dcmp x 4622382067542392832 ≠ some .gt) : dP x := by
  have hv : FP.Core.val64 x ≠ .nan := (FP.Core.notNaN_iff x).mp hn
  refine ⟨?_, ?_, h1, h2⟩
  · cases h : FP.Core.val64 x with
    | nan => exact absurd h hv
    | inf sg =>
      cases sg with
      | false =>
        refine absurd ?_ h2
        refine FP.Core.dcmp_gt.mpr ⟨hv, by decide +kernel, ?_⟩
        rw [h]
        decide +kernel
      | true =>
        refine absurd ?_ h1
        refine FP.Core.dcmp_lt.mpr ⟨hv, by decide +kernel, ?_⟩
        rw [h]
        decide +kernel
    | fin sg c q => exact ⟨sg, c, q, h⟩
  · intro hz
    refine h1 (FP.Core.dcmp_lt.mpr ⟨hv, by decide +kernel, ?_⟩)
    rw [(FP.Core.zval_eq_zero hv).mpr ((FP.Core.zero_bits2 x).mp hz)]
    decide +kernel
theorem dP_6 : dP 4618441417868443648 := dP_of (by decide +kernel) (by decide +kernel) (by decide +kernel)
theorem dP_11 : dP 4622382067542392832 := dP_of (by decide +kernel) (by decide +kernel) (by decide +kernel)
theorem dP_8 : dP 4620693217682128896 := dP_of (by decide +kernel) (by decide +kernel) (by decide +kernel)
theorem cmpG {a b : UInt64} (h : ¬ Op.cmpValue (FP.dcmp a b) .g < 0) : FP.dcmp a b ≠ some .lt := fun e => h (by rw [e]; decide)
theorem cmpL {a b : UInt64} (h : ¬ 0 < Op.cmpValue (FP.dcmp a b) .l) : FP.dcmp a b ≠ some .gt := fun e => h (by rw [e]; decide)
theorem dP.nn {x : UInt64} (h : dP x) : FP.Core.dIsNaN x = false := h.1.notNaN
theorem i2d_fin' (v : Int32) : FP.Core.DFin (FP.i2d v) := FP.Core.i2d_fin v
theorem i2d_zv (v : Int32) : FP.Core.zval FP.Core.b64 (FP.Core.val64 (FP.i2d v)) = v.toInt * (FP.Core.one64 : Int) := by
  have h : FP.Core.Small53 v.toInt64 := by
    have h1 := v.le_toInt
    have h2 := v.toInt_lt
    unfold FP.Core.Small53
    rw [Int32.toInt_toInt64]
    constructor <;> omega
  have h3 := FP.Core.DInt_zval (i := v.toInt64.toInt) (FP.Core.l2d_whole h)
  rw [Int32.toInt_toInt64] at h3
  rw [show FP.i2d v = FP.Core.l2d v.toInt64 from FP.Core.i2d_l2d v]
  exact h3
theorem i2d_nz {v : Int32} (h : v ≠ 0) : ¬ FP.Core.DZero (FP.i2d v) := by
  intro hz
  have h1 := (FP.Core.zval_eq_zero hz.fin.ne_nan).mpr ((FP.Core.zero_bits2 _).mp hz)
  rw [i2d_zv] at h1
  have h4 : v.toInt = 0 := by
    have := FP.Core.one64_pos
    rcases Int.mul_eq_zero.mp h1 with h | h
    · exact h
    · omega
  exact h (Int32.toInt_inj.mp (by rw [h4]; rfl))
/-! what is read of a byte: -1, or 0 to 255 -/
def gQ (x : Int32) : Prop := x = -1 ∨ ∃ k : Nat, k < 16 ∧ x = nI k
def bQ (x : Int32) : Prop := x = -1 ∨ ∃ k : Nat, k ≤ 255 ∧ x = nI k
theorem gQ_m : gQ (-1) := Or.inl rfl
theorem gQ_n {k : Nat} (h : k < 16) : gQ (nI k) := Or.inr ⟨k, h, rfl⟩
theorem bQ_m : bQ (-1) := Or.inl rfl
theorem bQ_n {k : Nat} (h : k ≤ 255) : bQ (nI k) := Or.inr ⟨k, h, rfl⟩
theorem bQ_hl {a b : Int32} (ha : gQ a) (hb : gQ b) (h1 : ¬ a = -1) (h2 : ¬ b = -1) : bQ (a * nI 16 + b) := by
  rcases ha with ha | ⟨k, hk, rfl⟩
  · exact absurd ha h1
  · rcases hb with hb | ⟨j, hj, rfl⟩
    · exact absurd hb h2
    · refine Or.inr ⟨k * 16 + j, by omega, ?_⟩
      rw [pk_mul, nI_add]
theorem bQ_8 {i w : Nat} (h : 8 ≤ i) (hi : i ≤ 8) (hw : w + 1 ≤ 2 ^ i) : bQ (nI w) := by
  have : i = 8 := by omega
  subst this
  exact bQ_n (by omega)
/-- a number that goes down to -1 -/
def sh (s : Nat) : Int32 := nI s - nI 1
theorem sh_pos {s : Nat} (h : 0 < s) : sh s = nI (s - 1) := by
  unfold sh
  exact pk_sub (by omega)
theorem qm1 (x : Int32) : x + Int32.ofInt (-1) = x - nI 1 := by
  rw [Int32.sub_eq_add_neg]
  rfl
theorem mx1 (y : Int32) : ∃ k : Nat, 1 ≤ k ∧ k < 2 ^ 31 ∧ (if nI 1 < y then y else nI 1) = nI k := by
  by_cases h : nI 1 < y
  · rw [if_pos h]
    have h0 : ¬ y < 0 := by
      intro q
      have h1 := Int32.lt_iff_toInt_lt.mp h
      have h2 := Int32.lt_iff_toInt_lt.mp q
      have e1 : (nI 1).toInt = 1 := by decide
      have e2 : (0 : Int32).toInt = 0 := rfl
      omega
    obtain ⟨k, hk, rfl⟩ := nI_of h0
    rw [qlt (by decide) hk] at h
    exact ⟨k, by omega, hk, rfl⟩
  · rw [if_neg h]
    exact ⟨1, by decide, by decide, rfl⟩
theorem nar01 {b : Nat} (h : b ≤ 1) : vp_nar .boolean (nI b) = nI b := by
  have : b = 0 ∨ b = 1 := by omega
  rcases this with rfl | rfl <;> decide
theorem q25 : FP.Core.DFin 4598175219545276416 ∧ ¬ FP.Core.DZero 4598175219545276416 := ⟨(FP.Core.fin_bits _).mpr (by decide +kernel), fun h => absurd ((FP.Core.zero_bits2 _).mp h) (by decide +kernel)⟩
/-! the dirt of a row, step by step -/
def soF (i0 i : Nat) (f : Nat → Int32) (j : Nat) : Int32 := if i0 ≤ j ∧ j < i ∧ f j = nI 0 then nI 1 else f j
theorem soF_0 (i0 : Nat) (f : Nat → Int32) : ∀ j, f j = soF i0 i0 f j := fun j => by
  unfold soF
  rw [if_neg (by omega)]
theorem soF_keep {i0 i : Nat} {f g : Nat → Int32} (hg : ∀ j, g j = soF i0 i f j) (h : g i ≠ nI 0) : ∀ j, g j = soF i0 (i + 1) f j := fun j => by
  rw [hg j]
  have hi := hg i
  unfold soF at *
  rw [if_neg (by omega)] at hi
  by_cases e : j = i
  · subst e
    rw [if_neg (by omega), if_neg (by rw [← hi]; exact fun q => h q.2.2)]
  · by_cases h1 : i0 ≤ j ∧ j < i ∧ f j = nI 0
    · rw [if_pos h1, if_pos ⟨h1.1, by omega, h1.2.2⟩]
    · rw [if_neg h1, if_neg (fun q => h1 ⟨q.1, by omega, q.2.2⟩)]
theorem soF_set {i0 i : Nat} {f g : Nat → Int32} (h0 : i0 ≤ i) (hg : ∀ j, g j = soF i0 i f j) (h : g i = nI 0) : ∀ j, upd g i (nI 1) j = soF i0 (i + 1) f j := fun j => by
  have hi := hg i
  by_cases e : j = i
  · subst e
    rw [upd_at]
    unfold soF at *
    rw [if_neg (by omega)] at hi
    rw [if_pos ⟨h0, by omega, by rw [← hi]; exact h⟩]
  · rw [upd_ne _ _ e, hg j]
    unfold soF
    by_cases h1 : i0 ≤ j ∧ j < i ∧ f j = nI 0
    · rw [if_pos h1, if_pos ⟨h1.1, by omega, h1.2.2⟩]
    · rw [if_neg h1, if_neg (fun q => h1 ⟨q.1, by omega, q.2.2⟩)]
def wiF (i : Nat) (f : Nat → Int32) (j : Nat) : Int32 := if j < i ∧ f j ≠ nI 3 then nI 0 else f j
theorem wiF_0 (f : Nat → Int32) : ∀ j, f j = wiF 0 f j := fun j => by
  unfold wiF
  rw [if_neg (by omega)]
theorem wiF_keep {i : Nat} {f g : Nat → Int32} (hg : ∀ j, g j = wiF i f j) (h : g i = nI 3) : ∀ j, g j = wiF (i + 1) f j := fun j => by
  rw [hg j]
  have hi := hg i
  unfold wiF at *
  rw [if_neg (by omega)] at hi
  by_cases e : j = i
  · subst e
    rw [if_neg (by omega), if_neg (fun q => q.2 (by rw [← hi]; exact h))]
  · by_cases h1 : j < i ∧ f j ≠ nI 3
    · rw [if_pos h1, if_pos ⟨by omega, h1.2⟩]
    · rw [if_neg h1, if_neg (fun q => h1 ⟨by omega, q.2⟩)]
theorem wiF_set {i : Nat} {f g : Nat → Int32} (hg : ∀ j, g j = wiF i f j) (h : ¬ g i = nI 3) : ∀ j, upd g i (nI 0) j = wiF (i + 1) f j := fun j => by
  have hi := hg i
  by_cases e : j = i
  · subst e
    rw [upd_at]
    unfold wiF at *
    rw [if_neg (by omega)] at hi
    rw [if_pos ⟨by omega, by rw [← hi]; exact h⟩]
  · rw [upd_ne _ _ e, hg j]
    unfold wiF
    by_cases h1 : j < i ∧ f j ≠ nI 3
    · rw [if_pos h1, if_pos ⟨by omega, h1.2⟩]
    · rw [if_neg h1, if_neg (fun q => h1 ⟨by omega, q.2⟩)]
theorem cntT_y {f : Nat → Int32} {t i : Nat} (h : dT (f i) = t) : cntT f t (i + 1) = cntT f t i + 1 := by
  show cntT f t i + _ = _
  rw [if_pos h]
theorem cntT_n {f : Nat → Int32} {t i : Nat} (h : ¬ dT (f i) = t) : cntT f t (i + 1) = cntT f t i := by
  show cntT f t i + _ = _
  rw [if_neg h, Nat.add_zero]
theorem dT_le (x : Int32) : dT x ≤ 2 := by
  unfold dT
  split
  · omega
  · split <;> omega
theorem dT_0 {x : Int32} (h : x = nI 0) : dT x = 0 := if_pos h
theorem dT_3 {x : Int32} (h : x = nI 3) : dT x = 2 := by rw [h]; decide
theorem dT_1 {x : Int32} (h : ¬ x = nI 0) (h3 : ¬ x = nI 3) : dT x = 1 := by unfold dT; rw [if_neg h, if_neg h3]
theorem wear_1 {f : Nat → Int32} {i : Nat} (h : f i = nI 1) : upd f i (nI 2) = wearF f i := by unfold wearF; rw [if_pos h]
theorem wear_2 {f : Nat → Int32} {i : Nat} (h : ¬ f i = nI 1) (h2 : f i = nI 2) : upd f i (nI 3) = wearF f i := by unfold wearF; rw [if_neg h, if_pos h2]
theorem wear_0 {f : Nat → Int32} {i : Nat} (h : ¬ f i = nI 1) (h2 : ¬ f i = nI 2) : f = wearF f i := by unfold wearF; rw [if_neg h, if_neg h2]
/-- digits put one behind another, from the greatest on: s of cn are left -/
def pD (x : Int32) (cn : Nat) (wv : Int32) (n s n2 : Nat) (fb fb2 fw fw2 fk fk2 fd fd2 : Nat → Int32) : Prop := s ≤ cn ∧ n2 = n + (cn - s) ∧ xE n n2 wv fw fw2 fk fk2 fd fd2 ∧ (∀ j : Nat, j < n → fb2 j = fb j) ∧ ∀ j : Nat, j < cn - s → fb2 (n + j) = dg x (cn - 1 - j)
theorem pD_0 (x : Int32) (cn : Nat) (wv : Int32) (n : Nat) (fb fw fk fd : Nat → Int32) : pD x cn wv n cn n fb fb fw fw fk fk fd fd := ⟨Nat.le_refl _, by omega, xE.refl _ _ _ _ _, fun _ _ => rfl, fun j hj => absurd hj (by omega)⟩
theorem pD_s {x : Int32} {cn : Nat} {wv : Int32} {n s n2 : Nat} {fb fb2 fw fw2 fk fk2 fd fd2 : Nat → Int32} (h : pD x cn wv n s n2 fb fb2 fw fw2 fk fk2 fd fd2) (hs : 0 < s) : pD x cn wv n (s - 1) (n2 + 1) fb (upd fb2 n2 (dg x (s - 1))) fw (upd fw2 n2 wv) fk (upd fk2 n2 (nI 0)) fd (upd fd2 n2 (nI 0)) := by
  obtain ⟨h1, h2, h3, h4, h5⟩ := h
  refine ⟨by omega, by omega, h3.trans (by omega) (xE.put _ _ _ _ _), fun j hj => ?_, fun j hj => ?_⟩
  · rw [upd_ne _ _ (by omega)]
    exact h4 j hj
  · by_cases e : n + j = n2
    · rw [e, upd_at]
      congr 1
      omega
    · rw [upd_ne _ _ e]
      exact h5 j (by omega)
