/-! What isSo rests on. -/
def vS (S : TS) : Nat → Int32 := ow (nn S 0) (rw' S 7) (rw' S 5)
def cx (S : TS) : Nat := ow (nn S 0) 2 1
theorem cx_B (S : TS) : cB (cx S) = cB (nn S 0) := by
  unfold cx
  by_cases h : nn S 0 = 2
  · rw [ow_g h, h]
  · rw [ow_p h, cB_n h]; rfl
theorem TI.own {S : TS} (h : TI S) : nsS S ≤ 8 ∧ sAll (cx S) (nn S 6) (rw' S 4) (vS S) (nsS S) (nn S 6) ∧ ngS S = cntG (vS S) (nsS S) ∧ plS S ≤ 400 ∧ (0 < plS S ↔ 0 < ngS S) ∧ cuS S ≤ 1 ∧ stS S ≤ 400 := by
  obtain ⟨-, -, -, -, -, -, -, -, -, -, -, -, hP, hG, h10, h16, h9, h15, -⟩ := h
  unfold nsS cx vS ngS plS cuS stS
  by_cases h2 : nn S 0 = 2
  · rw [ow_g h2, ow_g h2, ow_g h2, ow_g h2, ow_g h2, ow_g h2, ow_g h2]
    exact ⟨hG.1, hG.2.1, hG.2.2.1, hG.2.2.2.1.2.1, hG.2.2.2.2, h16, h15⟩
  · rw [ow_p h2, ow_p h2, ow_p h2, ow_p h2, ow_p h2, ow_p h2, ow_p h2]
    exact ⟨hP.1, hP.2.1, hP.2.2.1, hP.2.2.2.1.2.1, hP.2.2.2.2, h10, h9⟩
theorem gdS_eq {S : TS} : gdS S = (if ngS S < nsS S then 1 else 0) + (if twN (vS S) (nsS S) = 1 then 2 else 0) + (if 0 < nn S 2 then 4 else 0) + (if 0 < stS S then 8 else 0) + (if cuS S = 1 then 16 else 0) + (if 300 < nn S 6 then 32 else 0) := by
  unfold gdS nsS vS ngS stS cuS gdv
  by_cases h2 : nn S 0 = 2
  · simp only [ow_g h2]
  · simp only [ow_p h2]
theorem bQ_ge {x : Int32} (h : bQ x) : ¬ x < -1 := by
  rcases h with rfl | ⟨k, hk, rfl⟩
  · decide
  · intro q
    have h1 := Int32.lt_iff_toInt_lt.mp q
    rw [nI_toInt (by omega)] at h1
    have h2 : (-1 : Int32).toInt = -1 := by decide
    omega
theorem or01 {a b : Nat} (ha : a ≤ 1) (hb : b ≤ 1) : nI a ||| nI b = nI (max a b) := by
  rcases (show a = 0 ∨ a = 1 by omega) with rfl | rfl <;> rcases (show b = 0 ∨ b = 1 by omega) with rfl | rfl <;> decide
theorem isTw_s {v : Nat → Int32} {i : Nat} : isTw v (i + 1) ↔ isTw v i ∨ ∃ x, x < i ∧ v (x * 9 + 1) = v (i * 9 + 1) := by
  constructor
  · rintro ⟨x, y, h1, h2, h3⟩
    by_cases e : y = i
    · subst e; exact Or.inr ⟨x, h1, h3⟩
    · exact Or.inl ⟨x, y, h1, by omega, h3⟩
  · rintro (⟨x, y, h1, h2, h3⟩ | ⟨x, h1, h3⟩)
    · exact ⟨x, y, h1, by omega, h3⟩
    · exact ⟨x, i, h1, by omega, h3⟩
theorem ex_s {Q : Nat → Prop} {j : Nat} : (∃ x, x < j + 1 ∧ Q x) ↔ (∃ x, x < j ∧ Q x) ∨ Q j := by
  constructor
  · rintro ⟨x, h1, h2⟩
    by_cases e : x = j
    · subst e; exact Or.inr h2
    · exact Or.inl ⟨x, by omega, h2⟩
  · rintro (⟨x, h1, h2⟩ | h)
    · exact ⟨x, by omega, h2⟩
    · exact ⟨j, by omega, h⟩
theorem wl_0 {g q : Nat} : wl g q &&& (nI g ^^^ -1) = 0 := by
  unfold wl
  generalize ((if 300 < q then nI 32 else nI 0) ^^^ (-1)) = y
  generalize nI g = x
  apply Int32.toBitVec_inj.mp
  rw [Int32.toBitVec_and, Int32.toBitVec_and, Int32.toBitVec_xor, show (-1 : Int32).toBitVec = BitVec.allOnes 32 from by decide]
  apply BitVec.eq_of_getLsbD_eq
  intro i hi
  rw [BitVec.getLsbD_and, BitVec.getLsbD_and, BitVec.getLsbD_xor, BitVec.getLsbD_allOnes, decide_eq_true hi]
  cases x.toBitVec.getLsbD i <;> cases y.toBitVec.getLsbD i <;> simp
theorem x12 {a b x1 x2 : Nat} (h : 0 < a ↔ 0 < b) (h1 : x1 = if 0 < a then 1 else 0) (h2 : x2 = if 0 < b then 1 else 0) : x1 = x2 ∧ x1 ≤ 1 := by
  by_cases hb : 0 < b
  · rw [if_pos hb] at h2
    rw [if_pos (h.mpr hb)] at h1
    omega
  · rw [if_neg hb] at h2
    rw [if_neg (fun q => hb (h.mp q))] at h1
    omega
