/-! What the law's cases rest on. -/
theorem wr_new {S S2 : TS} {n2 w : Nat} (h : wrS S S2 n2 w) {j : Nat} (h1 : nn S 5 ≤ j) (h2 : j < n2) : rw' S2 1 j = nI w ∧ rw' S2 2 j = nI 0 ∧ rw' S2 3 j = nI 0 := h.2.2.2.2 j h1 h2
theorem fr_up {f : Nat → Int32} {T : Nat → TS} (h : ∀ q, q < 4 → f q = nI (nn (T q) 5)) {k v : Nat} {S2 : TS} (e : nn S2 5 = v) : ∀ q, q < 4 → upd f k (nI v) q = nI (nn (uP T k S2 q) 5) := by
  intro q hq
  by_cases c : q = k
  · subst c
    rw [upd_at, uP_at, e]
  · rw [upd_ne _ _ c, uP_ne _ _ c]
    exact h q hq
theorem fr_keep {f : Nat → Int32} {T : Nat → TS} (h : ∀ q, q < 4 → f q = nI (nn (T q) 5)) {k : Nat} {S2 : TS} (e : nn S2 5 = nn (T k) 5) : ∀ q, q < 4 → f q = nI (nn (uP T k S2 q) 5) := by
  intro q hq
  by_cases c : q = k
  · subst c
    rw [uP_at, e]
    exact h q hq
  · rw [uP_ne _ _ c]
    exact h q hq
theorem shB_up {B : BS} {k : Nat} (hk : k < 4) (S2 : TS) (v : Nat → Nat) : shB (uP B.1 k S2, v) + shS (B.1 k) = shB B + shS S2 := by
  rcases (show k = 0 ∨ k = 1 ∨ k = 2 ∨ k = 3 by omega) with rfl | rfl | rfl | rfl
  · show 0 + shS S2 + shS (B.1 1) + shS (B.1 2) + shS (B.1 3) + shS (B.1 0) = 0 + shS (B.1 0) + shS (B.1 1) + shS (B.1 2) + shS (B.1 3) + shS S2
    omega
  · show 0 + shS (B.1 0) + shS S2 + shS (B.1 2) + shS (B.1 3) + shS (B.1 1) = 0 + shS (B.1 0) + shS (B.1 1) + shS (B.1 2) + shS (B.1 3) + shS S2
    omega
  · show 0 + shS (B.1 0) + shS (B.1 1) + shS S2 + shS (B.1 3) + shS (B.1 2) = 0 + shS (B.1 0) + shS (B.1 1) + shS (B.1 2) + shS (B.1 3) + shS S2
    omega
  · show 0 + shS (B.1 0) + shS (B.1 1) + shS (B.1 2) + shS S2 + shS (B.1 3) = 0 + shS (B.1 0) + shS (B.1 1) + shS (B.1 2) + shS (B.1 3) + shS S2
    omega
theorem shS_le {B : BS} {k : Nat} (hk : k < 4) : shS (B.1 k) ≤ shB B := by
  unfold shB
  rcases (show k = 0 ∨ k = 1 ∨ k = 2 ∨ k = 3 by omega) with rfl | rfl | rfl | rfl <;> omega
theorem cntT_mono {f g : Nat → Int32} {t : Nat} : ∀ n, (∀ j, j < n → dT (f j) = t → dT (g j) = t) → cntT f t n ≤ cntT g t n
  | 0, _ => Nat.le_refl _
  | n + 1, h => by
    have h1 := cntT_mono n (fun j hj => h j (by omega))
    have h2 := h n (by omega)
    by_cases c : dT (f n) = t
    · rw [cntT_y c, cntT_y (h2 c)]
      omega
    · rw [cntT_n c]
      show _ ≤ cntT g t n + _
      omega
theorem cntT_zero {f : Nat → Int32} {t : Nat} : ∀ n, (∀ j, j < n → dT (f j) ≠ t) → cntT f t n = 0
  | 0, _ => rfl
  | n + 1, h => by rw [cntT_n (h n (by omega))]; exact cntT_zero n (fun j hj => h j (by omega))
theorem cntT_pos {f : Nat → Int32} {t i : Nat} (h : dT (f i) = t) : ∀ n, i < n → 1 ≤ cntT f t n
  | 0, hi => by omega
  | n + 1, hi => by
    by_cases c : i = n
    · subst c
      rw [cntT_y h]
      omega
    · have := cntT_pos h n (by omega)
      show 1 ≤ cntT f t n + _
      omega
theorem dT_2 {x : Int32} : dT x = 2 ↔ x = nI 3 := by
  constructor
  · intro h
    unfold dT at h
    split at h
    · omega
    · split at h
      · assumption
      · omega
  · exact dT_3
theorem dT_wi {f : Nat → Int32} {n j : Nat} (hj : j < n) : (dT (wiF n f j) = 2 ↔ dT (f j) = 2) ∧ dT (wiF n f j) ≠ 1 := by
  unfold wiF
  by_cases c : f j = nI 3
  · rw [if_neg (fun h => h.2 c), c]
    exact ⟨Iff.rfl, by decide⟩
  · rw [if_pos ⟨hj, c⟩]
    exact ⟨⟨fun h => absurd h (by decide), fun h => absurd (dT_2.mp h) c⟩, by decide⟩
theorem dT_so {f : Nat → Int32} {i : Nat} : dT (soF i (i + 1) f i) = max 1 (dT (f i)) := by
  unfold soF
  by_cases c : f i = nI 0
  · rw [if_pos ⟨Nat.le_refl _, Nat.lt_succ_self _, c⟩, c]
    decide
  · rw [if_neg (fun h => c h.2.2)]
    have h1 : dT (f i) ≠ 0 := by
      unfold dT
      rw [if_neg c]
      split <;> decide
    omega
theorem sumW_8 {f : Nat → Int32} : ∀ n, n ≤ 400 → (∀ j, j < n → f j = nI 8) → sumW f n = nI (8 * n)
  | 0, _, _ => rfl
  | n + 1, hn, h => by
    show sumW f n + f n = _
    rw [sumW_8 n (by omega) (fun j hj => h j (by omega)), h n (by omega), nI_add]
    rfl
/-- cleaning takes no cell that is gone, and brings none back -/
theorem cl_sh {S S2 : TS} (h : clS S S2) : shS S2 = shS S ∧ cntT (rw' S2 3) 2 (nn S 5) = shS S := by
  have e : nn S2 5 = nn S 5 := congrFun h.2.1 5
  have h1 : cntT (rw' S2 3) 2 (nn S 5) = cntT (rw' S 3) 2 (nn S 5) := by
    refine Nat.le_antisymm (cntT_mono _ fun j hj c => ?_) (cntT_mono _ fun j hj c => ?_)
    · rw [h.2.2 j] at c
      exact (dT_wi hj).1.mp c
    · rw [h.2.2 j]
      exact (dT_wi hj).1.mpr c
  exact ⟨by unfold shS; rw [e]; exact h1, h1⟩
theorem cl_no1 {S S2 : TS} (h : clS S S2) {j : Nat} (hj : j < nn S 5) : dT (rw' S2 3 j) ≠ 1 := by
  rw [h.2.2 j]
  exact (dT_wi hj).2
theorem rd_sh {S S2 : TS} (h : rdS S S2) : shS S ≤ shS S2 := by
  unfold shS
  rw [h.2.2.1]
  exact cntT_mono _ fun j hj c => dT_3 (h.2.2.2.2.2 j (dT_2.mp c))
theorem cp_sh {S S2 : TS} {n2 : Nat} (h : cpS S S2 n2) : shS S2 = 0 := by
  unfold shS
  rw [h.2.2.2.1]
  exact cntT_zero _ fun j hj => by rw [(h.2.2.2.2 j hj).2]; decide
theorem di_1 {S S2 : TS} {i : Nat} (h : diS S S2 i i) : dT (rw' S2 3 i) = max 1 (dT (rw' S 3 i)) := by
  rw [h.2.2 i]
  exact dT_so
theorem di_c {S S2 : TS} {i n : Nat} (h : diS S S2 i i) (hi : i < n) (hc : dT (rw' S 3 i) ≠ 2) : 1 ≤ cntT (rw' S2 3) 1 n := by
  refine cntT_pos (i := i) ?_ n hi
  rw [di_1 h]
  have := dT_le (rw' S 3 i)
  omega
theorem wk_1 {on : Nat} (h : on ≤ 1) : (if nI on = nI 0 then 0 else 1) = on := by
  rcases (show on = 0 ∨ on = 1 by omega) with rfl | rfl <;> decide
theorem lg_self (x : Int64) : lg_cmp x x = nI 0 := by
  unfold lg_cmp
  rw [if_neg (fun h => absurd h (Int64.lt_irrefl)), if_pos rfl]
  rfl
theorem LI_C {B : BS} {m : Nat} (h : LI B m) {k i : Nat} (hk : k < 4) {S : TS} (hS : TI S) (hi : i = 5 ∨ i = 6) (h3 : nn S 3 = nn (B.1 k) 3) : LI (uP B.1 k S, uP B.2 i (B.2 i + 1)) (m + 1) := by
  refine ⟨BI_C h.1 hS hi, fun j hj => ?_, ?_, ?_, ?_⟩
  · have h4 : uP B.2 i (B.2 i + 1) 4 = B.2 4 := uP_ne _ _ (by omega)
    show nn (uP B.1 k S j) 3 ≤ uP B.2 i (B.2 i + 1) 4
    rw [h4]
    by_cases e : j = k
    · rw [e, uP_at, h3]; exact h.2.1 k hk
    · rw [uP_ne _ _ e]; exact h.2.1 j hj
  · show uP B.2 i (B.2 i + 1) 4 ≤ m + 1
    rw [uP_ne _ _ (show (4 : Nat) ≠ i by omega)]
    have := h.2.2.1; omega
  · show uP B.2 i (B.2 i + 1) 5 ≤ m + 1
    have h5 := h.2.2.2.1
    rcases hi with rfl | rfl
    · rw [uP_at]; omega
    · rw [uP_ne _ _ (by decide)]; omega
  · show uP B.2 i (B.2 i + 1) 6 ≤ m + 1
    have h6 := h.2.2.2.2
    rcases hi with rfl | rfl
    · rw [uP_ne _ _ (by decide)]; omega
    · rw [uP_at]; omega
theorem shB_le {B : BS} (h : BI B) : shB B ≤ 1600 := by
  have g : ∀ k, k < 4 → shS (B.1 k) ≤ 400 := fun k hk => Nat.le_trans (cntT_le _ _ _) (h.1 k hk).2.2.2.1
  have g0 := g 0 (by decide)
  have g1 := g 1 (by decide)
  have g2 := g 2 (by decide)
  have g3 := g 3 (by decide)
  unfold shB
  omega
