/-! Three turns, the oldest first; what they tell together. -/
def tuS {α : Type} (x0 x1 x2 : α) (k : Nat) : α := if k = 0 then x0 else if k = 1 then x1 else x2
theorem mod3 (x : Nat) : x % 3 = 0 ∨ x % 3 = 1 ∨ x % 3 = 2 := by omega
theorem xor3 {a : Nat} (h : a ≤ 5) : 0 ≤ nI a ^^^ nI 3 := by
  rcases (show a = 0 ∨ a = 1 ∨ a = 2 ∨ a = 3 ∨ a = 4 ∨ a = 5 by omega) with rfl | rfl | rfl | rfl | rfl | rfl <;> decide
def mnS (s0 : Nat) (f : Nat → Nat) : Nat → Nat
  | 0 => s0
  | k + 1 => min (mnS s0 f k) (f k)
def mxS (f : Nat → Nat) : Nat → Nat
  | 0 => 0
  | k + 1 => max (mxS f k) (f k)
theorem mnS_le0 (s0 : Nat) (f : Nat → Nat) : ∀ k, mnS s0 f k ≤ s0
  | 0 => Nat.le_refl _
  | k + 1 => by
    have := mnS_le0 s0 f k
    show min _ _ ≤ _
    omega
theorem mnS_le {s0 : Nat} {f : Nat → Nat} : ∀ {k j : Nat}, j < k → mnS s0 f k ≤ f j
  | 0, j, h => absurd h (by omega)
  | k + 1, j, h => by
    show min _ _ ≤ _
    by_cases e : j = k
    · rw [e]; omega
    · have := mnS_le (s0 := s0) (f := f) (k := k) (j := j) (by omega)
      omega
theorem mxS_ge {f : Nat → Nat} : ∀ {k j : Nat}, j < k → f j ≤ mxS f k
  | 0, j, h => absurd h (by omega)
  | k + 1, j, h => by
    show _ ≤ max _ _
    by_cases e : j = k
    · rw [e]; omega
    · have := mxS_ge (f := f) (k := k) (j := j) (by omega)
      omega
theorem mxS_le {f : Nat → Nat} {m : Nat} (h : ∀ j, f j ≤ m) : ∀ k, mxS f k ≤ m
  | 0 => Nat.zero_le _
  | k + 1 => by
    have := mxS_le h k
    have := h k
    show max _ _ ≤ _
    omega
theorem mn_mx {s0 : Nat} {f : Nat → Nat} {k : Nat} (h : k = 0 → s0 = 0) : mnS s0 f k ≤ mxS f k := by
  rcases Nat.eq_zero_or_pos k with rfl | hk
  · rw [h rfl]; exact Nat.le_refl _
  · have h1 := mnS_le (s0 := s0) (f := f) hk
    have h2 := mxS_ge (f := f) hk
    omega
/-- the guards as one number -/
def gdv (ng ns tw un st cu vl : Nat) : Nat := (if ng < ns then 1 else 0) + (if tw = 1 then 2 else 0) + (if 0 < un then 4 else 0) + (if 0 < st then 8 else 0) + (if cu = 1 then 16 else 0) + (if 300 < vl then 32 else 0)
theorem gd_or {a b c d e f : Nat} (ha : a = 0 ∨ a = 1) (hb : b = 0 ∨ b = 2) (hc : c = 0 ∨ c = 4) (hd : d = 0 ∨ d = 8) (he : e = 0 ∨ e = 16) (hf : f = 0 ∨ f = 32) : (((((nI a ||| nI b) ||| nI c) ||| nI d) ||| nI e) ||| nI f) = nI (a + b + c + d + e + f) := by
  rcases ha with rfl | rfl <;> rcases hb with rfl | rfl <;> rcases hc with rfl | rfl <;> rcases hd with rfl | rfl <;> rcases he with rfl | rfl <;> rcases hf with rfl | rfl <;> decide
theorem ite0 {p : Prop} [Decidable p] {x : Nat} : (if p then x else 0) = 0 ∨ (if p then x else 0) = x := by
  by_cases h : p
  · rw [if_pos h]; exact Or.inr rfl
  · rw [if_neg h]; exact Or.inl rfl
theorem wear_3 {g g2 : Nat → Int32} {i : Nat} (e : g2 = wearF g i) {j : Nat} (h : g j = nI 3) : g2 j = nI 3 := by
  subst e
  unfold wearF
  by_cases hj : j = i
  · subst hj
    rw [if_neg (by rw [h]; decide), if_neg (by rw [h]; decide)]
    exact h
  · split
    · rw [upd_ne _ _ hj]; exact h
    · split
      · rw [upd_ne _ _ hj]; exact h
      · exact h
theorem mn_s {sh s0 : Nat} {f : Nat → Nat} {i x : Nat} (h : sh = mnS s0 f i) (hx : f i = x) : min sh x = mnS s0 f (i + 1) := by
  rw [h, ← hx]
  rfl
theorem mx_s {lg : Nat} {f : Nat → Nat} {i x : Nat} (h : lg = mxS f i) (hx : f i = x) : max lg x = mxS f (i + 1) := by
  rw [h, ← hx]
  rfl
theorem tuS_le {x0 x1 x2 m : Nat} (h0 : x0 ≤ m) (h1 : x1 ≤ m) (h2 : x2 ≤ m) (k : Nat) : tuS x0 x1 x2 k ≤ m := by
  unfold tuS
  split
  · exact h0
  · split
    · exact h1
    · exact h2
theorem mn_mx1 {f : Nat → Nat} {k : Nat} (hf : ∀ j, f j ≤ 400) (h : k < 2) : mxS f k - mnS (if k = 0 then 0 else 400) f k = 0 := by
  rcases (show k = 0 ∨ k = 1 by omega) with rfl | rfl
  · rfl
  · have := hf 0
    show max 0 (f 0) - min 400 (f 0) = 0
    omega
noncomputable def twN (v : Nat → Int32) (ns : Nat) : Nat := @ite _ (isTw v ns) (Classical.propDecidable _) 1 0
theorem twN_of {v : Nat → Int32} {ns b : Nat} (hb : b ≤ 1) (h : b = 1 ↔ isTw v ns) : b = twN v ns := by
  unfold twN
  by_cases ht : isTw v ns
  · rw [if_pos ht]; exact h.mpr ht
  · rw [if_neg ht]
    have : b ≠ 1 := fun e => ht (h.mp e)
    omega
theorem twN_iff (v : Nat → Int32) (ns : Nat) : twN v ns = 1 ↔ isTw v ns := by
  unfold twN
  by_cases ht : isTw v ns
  · rw [if_pos ht]; exact ⟨fun _ => ht, fun _ => rfl⟩
  · rw [if_neg ht]; exact ⟨fun h => absurd h (by decide), fun h => absurd h ht⟩
