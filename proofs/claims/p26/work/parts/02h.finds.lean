/-! What one finds in a row: sectors one behind another, those that are good, what a plain copy takes. -/
def uN (f : Nat → Nat) (k x : Nat) : Nat → Nat := fun j => if j = k then x else f j
theorem uN_at (f : Nat → Nat) (k x : Nat) : uN f k x k = x := by simp [uN]
theorem uN_ne (f : Nat → Nat) {k j : Nat} (x : Nat) (h : j ≠ k) : uN f k x j = f j := by simp [uN, h]
/-- the sector k of the values v: between lo and hi of the row g of L cells -/
def sOK (cd L : Nat) (g v : Nat → Int32) (k lo hi : Nat) : Prop := ∃ q u : Nat, v (k * 9) = nI q ∧ v (k * 9 + 2) = nI u ∧ 1 ≤ u ∧ u ≤ 4 ∧ lo ≤ q ∧ hi = q + 10 + (u + 3) * cB cd ∧ hi ≤ L ∧ g q = nI 1 ∧ g (q + 4) = nI 0 ∧ g (q + 9) = nI 1 ∧ (∃ b : Nat, b ≤ 1 ∧ v (k * 9 + 3) = nI b) ∧ (∀ i : Nat, i < 4 → bQ (v (k * 9 + 5 + i))) ∧ ∀ i : Nat, u ≤ i → i < 4 → v (k * 9 + 5 + i) = -1
def sAll (cd L : Nat) (g v : Nat → Int32) (ns e : Nat) : Prop := ∃ E : Nat → Nat, E 0 = 0 ∧ E ns ≤ e ∧ ∀ k : Nat, k < ns → sOK cd L g v k (E k) (E (k + 1))
def cntG (v : Nat → Int32) : Nat → Nat
  | 0 => 0
  | k + 1 => cntG v k + (if v (k * 9 + 3) = nI 1 then 1 else 0)
theorem sOK.congr {cd L : Nat} {g v v2 : Nat → Int32} {k lo hi : Nat} (h : sOK cd L g v k lo hi) (hv : ∀ j : Nat, j < k * 9 + 9 → v2 j = v j) : sOK cd L g v2 k lo hi := by
  obtain ⟨q, u, h1, h2, h3, h4, h5, h6, h7, h8, h9, h10, ⟨b, hb, h11⟩, h12, h13⟩ := h
  refine ⟨q, u, (hv _ (by omega)).trans h1, (hv _ (by omega)).trans h2, h3, h4, h5, h6, h7, h8, h9, h10, ⟨b, hb, (hv _ (by omega)).trans h11⟩, fun i hi => ?_, fun i h1 h2 => (hv _ (by omega)).trans (h13 i h1 h2)⟩
  rw [hv _ (by omega)]
  exact h12 i hi
theorem sAll.zero (cd L : Nat) (g v : Nat → Int32) : sAll cd L g v 0 0 := ⟨fun _ => 0, rfl, Nat.le_refl _, fun k hk => absurd hk (by omega)⟩
theorem sAll.le {cd L : Nat} {g v : Nat → Int32} {ns e e2 : Nat} (h : sAll cd L g v ns e) (he : e ≤ e2) : sAll cd L g v ns e2 := by
  obtain ⟨E, h1, h2, h3⟩ := h
  exact ⟨E, h1, by omega, h3⟩
theorem sAll.push {cd L : Nat} {g v v2 : Nat → Int32} {ns e hi : Nat} (h : sAll cd L g v ns e) (hv : ∀ j : Nat, j < ns * 9 → v2 j = v j) (hs : sOK cd L g v2 ns e hi) : sAll cd L g v2 (ns + 1) hi := by
  obtain ⟨E, h1, h2, h3⟩ := h
  refine ⟨uN E (ns + 1) hi, by rw [uN_ne _ _ (by omega)]; exact h1, by rw [uN_at]; exact Nat.le_refl _, fun k hk => ?_⟩
  by_cases hk2 : k = ns
  · subst hk2
    rw [uN_ne _ _ (by omega), uN_at]
    obtain ⟨q, u, a1, a2, a3, a4, a5, a6⟩ := hs
    exact ⟨q, u, a1, a2, a3, a4, by omega, a6⟩
  · rw [uN_ne _ _ (by omega), uN_ne _ _ (by omega)]
    exact (h3 k (by omega)).congr fun j hj => hv j (by omega)
theorem sOK.len {cd L : Nat} {g v : Nat → Int32} {k lo hi : Nat} (h : sOK cd L g v k lo hi) : lo + 50 ≤ hi ∧ hi ≤ L := by
  obtain ⟨q, u, h1, h2, h3, h4, h5, h6, h7, -⟩ := h
  have := cB_ge cd
  have h8 : 4 * 10 ≤ (u + 3) * cB cd := Nat.mul_le_mul (by omega) this
  omega
theorem sAll.len {cd L : Nat} {g v : Nat → Int32} {ns e : Nat} (h : sAll cd L g v ns e) : 50 * ns ≤ e := by
  obtain ⟨E, h1, h2, h3⟩ := h
  have key : ∀ k : Nat, k ≤ ns → 50 * k ≤ E k := by
    intro k
    induction k with
    | zero => intro _; omega
    | succ k ih =>
      intro hk
      have := (h3 k (by omega)).len
      have := ih (by omega)
      omega
  have := key ns (Nat.le_refl _)
  omega
theorem sAll.lenL {cd L : Nat} {g v : Nat → Int32} {ns e : Nat} (h : sAll cd L g v ns e) : 50 * ns ≤ L := by
  obtain ⟨E, h1, h2, h3⟩ := h
  cases ns with
  | zero => omega
  | succ k =>
    have h4 := sAll.len (cd := cd) (L := L) (g := g) (v := v) (ns := k + 1) (e := E (k + 1)) ⟨E, h1, Nat.le_refl _, h3⟩
    have := (h3 k (by omega)).len
    omega
theorem cntG_congr {v v2 : Nat → Int32} : ∀ k : Nat, (∀ j : Nat, j < k * 9 → v2 j = v j) → cntG v2 k = cntG v k
  | 0, _ => rfl
  | k + 1, h => by
    show cntG v2 k + _ = cntG v k + _
    rw [cntG_congr k (fun j hj => h j (by omega)), h (k * 9 + 3) (by omega)]
theorem cntG_le (v : Nat → Int32) : ∀ k, cntG v k ≤ k
  | 0 => Nat.le_refl _
  | k + 1 => by
    have := cntG_le v k
    show cntG v k + _ ≤ k + 1
    split <;> omega
/-- the sector k is good, of the number nu -/
def isG (v : Nat → Int32) (nu : Int32) (k : Nat) : Prop := v (k * 9 + 3) = nI 1 ∧ v (k * 9 + 1) = nu
/-- the answer for the first good sector of the number nu -/
def fG (v : Nat → Int32) (ns : Nat) (nu x : Int32) : Prop := (x = -1 ∧ ∀ k : Nat, k < ns → ¬ isG v nu k) ∨ ∃ k : Nat, k < ns ∧ x = nI k ∧ isG v nu k ∧ ∀ j : Nat, j < k → ¬ isG v nu j
/-- s is good, and the first one so of its number -/
def iFG (v : Nat → Int32) (s : Nat) : Prop := v (s * 9 + 3) = nI 1 ∧ ∀ j : Nat, j < s → ¬ isG v (v (s * 9 + 1)) j
theorem nI_ne_m1 {k : Nat} (h : k < 2 ^ 31) : nI k ≠ -1 := by
  intro e
  have h1 := congrArg Int32.toInt e
  rw [nI_toInt h] at h1
  have h2 : (-1 : Int32).toInt = -1 := by decide
  omega
theorem iFG_of {v : Nat → Int32} {ns s : Nat} {x : Int32} (hs : s < ns) (hn : ns ≤ 100) (h : fG v ns (v (s * 9 + 1)) x) : x = nI s ↔ iFG v s := by
  rcases h with ⟨h1, h2⟩ | ⟨k, h1, h2, h3, h4⟩
  · refine ⟨fun e => absurd (e.symm.trans h1) (nI_ne_m1 (by omega)), fun q => absurd ⟨q.1, rfl⟩ (h2 s hs)⟩
  · subst h2
    refine ⟨fun e => ?_, fun q => ?_⟩
    · have e := (nI_eq (a := k) (b := s) (by omega) (by omega)).mp e
      subst e
      exact ⟨h3.1, h4⟩
    · have h5 : ¬ k < s := fun hk => q.2 k hk h3
      have h6 : ¬ s < k := fun hk => h4 s hk ⟨q.1, rfl⟩
      rw [show k = s by omega]
/-- two have one number -/
def isTw (v : Nat → Int32) (ns : Nat) : Prop := ∃ i j : Nat, i < j ∧ j < ns ∧ v (i * 9 + 1) = v (j * 9 + 1)
/-- the cells of the first pn of the plain copy, its sectors' counts being cc -/
def spl (cd : Nat) (cc : Nat → Nat) : Nat → Nat
  | 0 => 0
  | j + 1 => spl cd cc j + (11 + (cc j + 3) * cB cd)
theorem spl_mono (cd : Nat) (cc : Nat → Nat) {a b : Nat} (h : a ≤ b) : spl cd cc a ≤ spl cd cc b := by
  induction b with
  | zero => rw [show a = 0 by omega]; exact Nat.le_refl _
  | succ b ih =>
    by_cases e : a = b + 1
    · rw [e]; exact Nat.le_refl _
    · have := ih (by omega)
      show _ ≤ spl cd cc b + _
      omega
theorem spl_congr (cd : Nat) {cc c2 : Nat → Nat} : ∀ k : Nat, (∀ j : Nat, j < k → c2 j = cc j) → spl cd c2 k = spl cd cc k
  | 0, _ => rfl
  | k + 1, h => by
    show spl cd c2 k + _ = spl cd cc k + _
    rw [spl_congr cd k (fun j hj => h j (by omega)), h k (by omega)]
def pOK (v ps : Nat → Int32) (ns : Nat) (cc : Nat → Nat) (j : Nat) : Prop := ∃ q : Nat, q < ns ∧ ps j = nI q ∧ v (q * 9 + 2) = nI (cc j) ∧ 1 ≤ cc j ∧ cc j ≤ 4
/-- what a plain copy would take, of the first i sectors -/
def pAll (cd : Nat) (v ps : Nat → Int32) (ns pn pl : Nat) : Prop := pn ≤ 8 ∧ pl ≤ 400 ∧ ∃ cc : Nat → Nat, (∀ j : Nat, j < pn → pOK v ps ns cc j) ∧ pl = spl cd cc pn
theorem pAll.zero (cd : Nat) (v ps : Nat → Int32) (ns : Nat) : pAll cd v ps ns 0 0 := ⟨by omega, by omega, fun _ => 0, fun j hj => absurd hj (by omega), rfl⟩
theorem pAll.push {cd : Nat} {v ps : Nat → Int32} {ns pn pl q u : Nat} (h : pAll cd v ps ns pn pl) (hn : pn < 8) (hq : q < ns) (hu : v (q * 9 + 2) = nI u) (hu1 : 1 ≤ u) (hu4 : u ≤ 4) (hl : pl + (10 + (u + 3) * cB cd + 1) ≤ 400) : pAll cd v (upd ps pn (nI q)) ns (pn + 1) (pl + (10 + (u + 3) * cB cd + 1)) := by
  obtain ⟨h1, h2, cc, h3, h4⟩ := h
  refine ⟨by omega, hl, uN cc pn u, fun j hj => ?_, ?_⟩
  · by_cases e : j = pn
    · subst e
      exact ⟨q, hq, upd_at _ _ _, by rw [uN_at]; exact hu, by rw [uN_at]; exact hu1, by rw [uN_at]; exact hu4⟩
    · obtain ⟨q2, a1, a2, a3, a4, a5⟩ := h3 j (by omega)
      exact ⟨q2, a1, (upd_ne _ _ e).trans a2, by rw [uN_ne _ _ e]; exact a3, by rw [uN_ne _ _ e]; exact a4, by rw [uN_ne _ _ e]; exact a5⟩
  · show _ = spl cd _ pn + _
    rw [spl_congr cd (c2 := uN cc pn u) (cc := cc) pn (fun j hj => uN_ne _ _ (by omega)), uN_at]
    omega
/-- what stands in a Finds behind a look at a row g of L cells by the code cd -/
def FI (cd L : Nat) (g v ps : Nat → Int32) (ns ng pn pl : Nat) : Prop := ns ≤ 8 ∧ sAll cd L g v ns L ∧ ng = cntG v ns ∧ pAll cd v ps ns pn pl ∧ (0 < pl ↔ 0 < ng)
theorem cntG_pos {v : Nat → Int32} : ∀ k : Nat, 0 < cntG v k ↔ ∃ j : Nat, j < k ∧ v (j * 9 + 3) = nI 1
  | 0 => ⟨fun h => absurd h (by show ¬ 0 < 0; omega), fun ⟨j, h, _⟩ => absurd h (by omega)⟩
  | k + 1 => by
    show 0 < cntG v k + _ ↔ _
    by_cases h : v (k * 9 + 3) = nI 1
    · rw [if_pos h]
      exact ⟨fun _ => ⟨k, by omega, h⟩, fun _ => by omega⟩
    · rw [if_neg h, Nat.add_zero, cntG_pos k]
      refine ⟨fun ⟨j, h1, h2⟩ => ⟨j, by omega, h2⟩, fun ⟨j, h1, h2⟩ => ⟨j, ?_, h2⟩⟩
      by_cases e : j = k
      · subst e; exact absurd h2 h
      · omega
/-- the least good sector is the first of its number -/
theorem iFG_least {v : Nat → Int32} {k : Nat} (h : v (k * 9 + 3) = nI 1) (hl : ∀ j : Nat, j < k → ¬ v (j * 9 + 3) = nI 1) : iFG v k := ⟨h, fun j hj q => hl j hj q.1⟩
/-- the last ten cells as a number -/
def lc (g : Nat → Int32) : Nat → Nat
  | 0 => 0
  | k + 1 => (2 * lc g k + (if g k = nI 1 then 1 else 0)) % 1024
theorem lc_lt (g : Nat → Int32) : ∀ k, lc g k < 1024
  | 0 => by show 0 < 1024; omega
  | k + 1 => Nat.mod_lt _ (by decide)
theorem lc_step {x b y a : Nat} (hb : b ≤ 1) (hy : y = (2 * x + b) % 1024) (kk aa : Nat) (h : y % (2 * kk) = aa) (hk : 1024 % (2 * kk) = 0) : b = aa % 2 ∧ x % kk = aa / 2 := by
  have h1 : (2 * x + b) % (2 * kk) = aa := by
    rw [← h, hy]
    exact (Nat.mod_mod_of_dvd _ (Nat.dvd_of_mod_eq_zero hk)).symm
  have h2 : (2 * x + b) % (2 * kk) = 2 * (x % kk) + b := by
    rw [Nat.add_mod, Nat.mul_mod_mul_left]
    rcases Nat.eq_zero_or_pos kk with rfl | hk0
    · simp
    · have h3 := Nat.mod_lt x hk0
      have h4 : b % (2 * kk) = b := Nat.mod_eq_of_lt (by omega)
      rw [h4]
      exact Nat.mod_eq_of_lt (by omega)
  omega
theorem lc_mark {g : Nat → Int32} (hg : B01 g) {e : Nat} (h : lc g (e + 10) = 529) : g e = nI 1 ∧ g (e + 4) = nI 0 ∧ g (e + 9) = nI 1 := by
  have b (j : Nat) : (if g j = nI 1 then 1 else 0 : Nat) ≤ 1 := by split <;> omega
  have s9 := lc_step (a := 0) (b (e + 9)) (rfl : lc g (e + 10) = _) 512 529 (by rw [h]) (by decide)
  have s8 := lc_step (a := 0) (b (e + 8)) (rfl : lc g (e + 9) = _) 256 264 s9.2 (by decide)
  have s7 := lc_step (a := 0) (b (e + 7)) (rfl : lc g (e + 8) = _) 128 132 s8.2 (by decide)
  have s6 := lc_step (a := 0) (b (e + 6)) (rfl : lc g (e + 7) = _) 64 66 s7.2 (by decide)
  have s5 := lc_step (a := 0) (b (e + 5)) (rfl : lc g (e + 6) = _) 32 33 s6.2 (by decide)
  have s4 := lc_step (a := 0) (b (e + 4)) (rfl : lc g (e + 5) = _) 16 16 s5.2 (by decide)
  have s3 := lc_step (a := 0) (b (e + 3)) (rfl : lc g (e + 4) = _) 8 8 s4.2 (by decide)
  have s2 := lc_step (a := 0) (b (e + 2)) (rfl : lc g (e + 3) = _) 4 4 s3.2 (by decide)
  have s1 := lc_step (a := 0) (b (e + 1)) (rfl : lc g (e + 2) = _) 2 2 s2.2 (by decide)
  have s0 := lc_step (a := 0) (b e) (rfl : lc g (e + 1) = _) 1 1 s1.2 (by decide)
  have yes (j : Nat) (q : (if g j = nI 1 then 1 else 0 : Nat) = 1) : g j = nI 1 := by
    by_cases hj : g j = nI 1
    · exact hj
    · rw [if_neg hj] at q; omega
  have no (j : Nat) (q : (if g j = nI 1 then 1 else 0 : Nat) = 0) : g j = nI 0 := by
    obtain ⟨x, hx, hj⟩ := hg j
    by_cases h1 : g j = nI 1
    · rw [if_pos h1] at q; omega
    · have : x = 0 := by
        rcases (show x = 0 ∨ x = 1 by omega) with rfl | rfl
        · rfl
        · exact absurd hj h1
      rw [hj, this]
  exact ⟨yes _ (by omega), no _ (by omega), yes _ (by omega)⟩
theorem all_s {Q : Nat → Prop} {i : Nat} (h : ∀ j, j < i → Q j) (hi : Q i) : ∀ j, j < i + 1 → Q j := fun j hj => by
  by_cases e : j = i
  · rw [e]; exact hi
  · exact h j (by omega)
theorem notFirst {v : Nat → Int32} {k : Nat} (h : ¬ iFG v k) (hg : v (k * 9 + 3) = nI 1) : ∃ j : Nat, j < k ∧ v (j * 9 + 3) = nI 1 := by
  by_cases hx : ∃ j : Nat, j < k ∧ v (j * 9 + 3) = nI 1
  · exact hx
  · exact absurd ⟨hg, fun j hj q => hx ⟨j, hj, q.1⟩⟩ h
theorem kd_s {g : Nat → Int32} {b u i : Nat} {x : Int32} (h : ∀ j : Nat, j < i → bQ (g (b + 5 + j)) ∧ (u ≤ j → g (b + 5 + j) = -1)) (hx : bQ x ∧ (u ≤ i → x = -1)) : ∀ j : Nat, j < i + 1 → bQ (upd g (b + (5 + i)) x (b + 5 + j)) ∧ (u ≤ j → upd g (b + (5 + i)) x (b + 5 + j) = -1) := fun j hj => by
  by_cases e : j = i
  · subst e
    rw [Nat.add_assoc, upd_at]
    exact hx
  · rw [upd_ne _ _ (by omega)]
    exact h j (by omega)
theorem cntG_push {v v2 : Nat → Int32} {ns gd : Nat} (hv : ∀ j : Nat, j < ns * 9 → v2 j = v j) (h3 : v2 (ns * 9 + 3) = nI gd) (hg : gd ≤ 1) : cntG v2 (ns + 1) = cntG v ns + gd := by
  show cntG v2 ns + _ = _
  rw [cntG_congr ns hv, h3]
  rcases (show gd = 0 ∨ gd = 1 by omega) with rfl | rfl
  · rfl
  · rfl
theorem lc_b {f : Nat → Int32} {en lv b : Nat} (hl : lv = lc f en) (hf : f en = nI b) (hb : b ≤ 1) : (2 * lv + b) % 1024 = lc f (en + 1) := by
  show _ = (2 * lc f en + _) % 1024
  rw [hl, hf]
  rcases (show b = 0 ∨ b = 1 by omega) with rfl | rfl
  · rfl
  · rfl
theorem sAll.cnt {cd L : Nat} {g v : Nat → Int32} {ns e : Nat} (h : sAll cd L g v ns e) : ∀ k : Nat, k < ns → ∃ u : Nat, v (k * 9 + 2) = nI u ∧ 1 ≤ u ∧ u ≤ 4 := fun k hk => by
  obtain ⟨E, -, -, h3⟩ := h
  obtain ⟨q, u, h1, h2, h4, h5, -⟩ := h3 k hk
  exact ⟨u, h2, h4, h5⟩
theorem sAll.toL {cd L : Nat} {g v : Nat → Int32} {ns e : Nat} (h : sAll cd L g v ns e) : sAll cd L g v ns L := by
  obtain ⟨E, h1, h2, h3⟩ := h
  refine ⟨E, h1, ?_, h3⟩
  cases ns with
  | zero => omega
  | succ k =>
    obtain ⟨q, u, -, -, -, -, -, -, h4, -⟩ := h3 k (by omega)
    exact h4
theorem neg_lt {a g : Nat} (ha : a < 10) (hg : g < 2 ^ 31) : nI a - nI 10 < nI g := by
  rw [Int32.lt_iff_toInt_lt, nI_toInt hg, Int32.toInt_sub, nI_toInt (by omega), nI_toInt (by decide), Int.bmod_eq_of_le (by omega) (by omega)]
  omega
