/-! Short forms over the kit: one shape of contract for every method (the world is a list of cells; the post speaks of the new list), its entry, its end, the caller's cut and join. -/
section MK
/-- the sixteen groups of the code 2 -/
def gI (j : Nat) : Int32 := nI ([10, 11, 18, 19, 14, 15, 22, 23, 9, 25, 26, 27, 13, 29, 30, 21].getD j 0)
abbrev gG (A : Nat → Prop) (U : State) (H : Heap) : Prop := ∃ t : Nat, va_Z "FluxBench$Codes" "GROUPS" "[I" (.ref t) A U H ∧ va_T .int t 16 (fun j => .int (gI j)) A U H
abbrev gE (A : Nat → Prop) (U : State) (H : Heap) : Prop := vx_Zq Bundle.tN "UNASSIGNED_STACK" Bundle.steD A U H ∧ vx_Zq Bundle.tN "SUPPRESSED_SENTINEL" Bundle.listD A U H
abbrev gT (U : State) : Prop := ∀ q ∈ gStrs, ∃ sa : Nat, vk_R q.1 q.2.1 q.2.2 sa U
/-- what every method may lean on: the table of groups, what an exception's making needs, the texts -/
abbrev gU (U : State) : Prop := (∀ q ∈ gNm, va_Nw (.methodLinkNest q.1 q.2.1 q.2.2.1 q.2.2.2) U) ∧ (∀ q ∈ gNf, va_Nw (.fieldLinkNest q.1 q.2.1 q.2.2.1 q.2.2.2.1 q.2.2.2.2.1 q.2.2.2.2.2) U) ∧ (∀ q ∈ gAo, va_AO q U) ∧ (∀ q ∈ gCs, va_Nw (.castable q.1 q.2) U) ∧ (∀ q ∈ gNc, va_Nc q.1 q.2 U) ∧ ∀ q ∈ gDs, va_Nw (.declares q) U
theorem gU_warm {s U : State} (hW : s.WarmedH U.vm) (h : gU s) : gU U := ⟨fun q hq => va_Nw.warmM hW (h.1 q hq), fun q hq => va_Nw.warmF hW (h.2.1 q hq), fun q hq => va_AO.moved hW.alike (h.2.2.1 q hq), fun q hq => va_Nw.warmC hW (h.2.2.2.1 q hq), fun q hq => va_Nc.moved hW.alike (h.2.2.2.2.1 q hq), fun q hq => va_tabs rfl (rfl : (s.setVm U.vm).vm = U.vm) (by rw [Cond.declares_setVm hW.alike]; exact h.2.2.2.2.2 q hq)⟩
theorem gU_same {u U : State} (hv : U.vm = u.vm) (h : gU u) : gU U := by
  have ha : u.vm.Alike U.vm := by rw [hv]; exact Vm.Alike.refl _
  exact ⟨fun q hq => va_Nw.same rfl hv.symm (h.1 q hq), fun q hq => va_Nw.same rfl hv.symm (h.2.1 q hq), fun q hq => va_AO.moved ha (h.2.2.1 q hq), fun q hq => va_Nw.same rfl hv.symm (h.2.2.2.1 q hq), fun q hq => va_Nc.moved ha (h.2.2.2.2.1 q hq), fun q hq => va_Nw.same rfl hv.symm (h.2.2.2.2.2 q hq)⟩
abbrev gS (z : Nat) (A : Nat → Prop) (U : State) (H : Heap) : Prop := gG A U H ∧ gE A U H ∧ gT U ∧ gU U ∧ gL z A U H
theorem gS_warm {z : Nat} {A : Nat → Prop} {s U : State} {H : Heap} (hW : s.WarmedH U.vm) (h : gS z A s H) : gS z A U H := by
  obtain ⟨⟨t, h1, h2⟩, ⟨h3, h4⟩, h5, h6, h7⟩ := h
  exact ⟨⟨t, va_Z.moved hW.alike h1, va_T.moved hW.alike h2⟩, ⟨vx_Zq.moved hW.alike h3, vx_Zq.moved hW.alike h4⟩, fun q hq => (h5 q hq).imp fun sa h => vk_R.warm hW h, gU_warm hW h6, gL_moved hW.alike h7⟩
theorem gS_same {z : Nat} {A : Nat → Prop} {u U : State} {H : Heap} (hv : U.vm = u.vm) (h : gS z A u H) : gS z A U H := by
  obtain ⟨⟨t, h1, h2⟩, ⟨h3, h4⟩, h5, h6, h7⟩ := h
  have ha : u.vm.Alike U.vm := by rw [hv]; exact Vm.Alike.refl _
  exact ⟨⟨t, va_Z.moved ha h1, va_T.moved ha h2⟩, ⟨vx_Zq.moved ha h3, vx_Zq.moved ha h4⟩, fun q hq => (h5 q hq).imp fun sa h => vk_R.same hv h, gU_same hv h6, gL_moved ha h7⟩
theorem gS_kept {z : Nat} {A : Nat → Prop} {U : State} {H H1 : Heap} (h : gS z A U H) (hq : ∀ a : Nat, a < H.size → ¬ A a → H1[a]? = H[a]?) : gS z A U H1 := by
  obtain ⟨⟨t, h1, h2⟩, ⟨h3, h4⟩, h5, h6, h7⟩ := h
  exact ⟨⟨t, va_Z.kept h1 hq, va_T.kept h2 hq⟩, ⟨vx_Zq.kept h3 hq, vx_Zq.kept h4 hq⟩, h5, h6, gL_kept h7 hq⟩
theorem gS_narrow {z : Nat} {A B : Nat → Prop} {U : State} {H : Heap} (h : gS z A U H) (hAB : ∀ q, B q → A q) : gS z B U H := by
  obtain ⟨⟨t, h1, h2⟩, ⟨h3, h4⟩, h5, h6, h7⟩ := h
  exact ⟨⟨t, va_Z.narrow h1 hAB, va_T.narrow h2 hAB⟩, ⟨vx_Zq.narrow h3 hAB, vx_Zq.narrow h4 hAB⟩, h5, h6, gL_narrow h7 hAB⟩
abbrev fTy : Type := List (ClassId × FieldType)
/-- the array classes that the worlds' rows are of -/
abbrev tyL (k : Nat → ClassId) : fTy := [(k 0, .int), (k 1, .boolean), (k 2, .object "FluxBench$Track")]
theorem ra_cls {U : State} {cA : ClassId} {ty : FieldType} (h : va_RA U cA ty) : U.vm.findClass ("[" ++ ty.toString) = some cA := by
  cases ty with
  | object C => obtain ⟨kA, comp, h1, h2, h3, h4⟩ := h; exact h4
  | _ => exact h
theorem tyEq {D : va_G} {cl : List vw_C} {tys : fTy} {U : State} (hK : va_K D cl tys U) (i j : Nat) {a b : ClassId} {ty : FieldType} (hi : tys[i]? = some (a, ty)) (hj : tys[j]? = some (b, ty)) : a = b :=
  Option.some.inj ((ra_cls (hK.2 i _ hi).2).symm.trans (ra_cls (hK.2 j _ hj).2))
/-- numbers: comparisons of small ones are comparisons of naturals -/
theorem qlt {a b : Nat} (ha : a < 2 ^ 31) (hb : b < 2 ^ 31) : (nI a < nI b) = (a < b) := propext (nI_ltI ha hb)
theorem qle {a b : Nat} (ha : a < 2 ^ 31) (hb : b < 2 ^ 31) : (nI a ≤ nI b) = (a ≤ b) := propext (nI_leI ha hb)
theorem qeq {a b : Nat} (ha : a < 2 ^ 31) (hb : b < 2 ^ 31) : (nI a = nI b) = (a = b) := propext (nI_eq ha hb)
theorem qz {a : Nat} (ha : a < 2 ^ 31) : (nI a = 0) = (a = 0) := by rw [← nI_0]; exact qeq ha (by decide)
theorem qp {a : Nat} (ha : a < 2 ^ 31) : (0 < nI a) = (0 < a) := by rw [← nI_0]; exact qlt (by decide) ha
theorem qnp {a : Nat} (ha : a < 2 ^ 31) : (nI a ≤ 0) = (a = 0) := by rw [← nI_0, qle ha (by decide)]; exact propext ⟨fun h => Nat.le_zero.mp h, fun h => Nat.le_of_eq h⟩
theorem qmax {a b : Nat} (ha : a < 2 ^ 31) (hb : b < 2 ^ 31) : (if nI a < nI b then nI b else nI a) = nI (max a b) := by
  by_cases h : a < b
  · rw [if_pos ((nI_ltI ha hb).mpr h), Nat.max_eq_right (by omega)]
  · rw [if_neg (fun q => h ((nI_ltI ha hb).mp q)), Nat.max_eq_left (by omega)]
theorem qmin {a b : Nat} (ha : a < 2 ^ 31) (hb : b < 2 ^ 31) : (if nI b < nI a then nI b else nI a) = nI (min a b) := by
  by_cases h : b < a
  · rw [if_pos ((nI_ltI hb ha).mpr h), Nat.min_eq_right (by omega)]
  · rw [if_neg (fun q => h ((nI_ltI hb ha).mp q)), Nat.min_eq_left (by omega)]
theorem rq_lo {x : Int32} (h : x < 0) {k : Nat} (hk : k < 2 ^ 31) : ∀ n : Nat, n ≤ k → x ≠ nI n := fun n hn e => nI_pos (n := n) (by omega) (e ▸ h)
theorem rq_hi {x : Int32} {k : Nat} (hk : k < 2 ^ 31) (h : ¬ x ≤ nI k) : ∀ n : Nat, n ≤ k → x ≠ nI n := fun n hn e => by
  rw [e, qle (by omega) hk] at h
  omega
theorem rq_ok {x : Int32} {k : Nat} (hk : k < 2 ^ 31) (h1 : ¬ x < 0) (h2 : x ≤ nI k) : ∃ n : Nat, n ≤ k ∧ x = nI n := by
  obtain ⟨j, hj, rfl⟩ := nI_of h1
  rw [qle hj hk] at h2
  exact ⟨j, by omega, rfl⟩
theorem rq_mid {x : Int32} {lo hi : Nat} (hl : lo ≤ hi) (hk : hi < 2 ^ 31) (h1 : ¬ x < nI lo) (h2 : x ≤ nI hi) : ∃ n : Nat, lo ≤ n ∧ n ≤ hi ∧ x = nI n := by
  have h0 : ¬ x < 0 := fun h => h1 (by
    rw [Int32.lt_iff_toInt_lt] at h ⊢
    rw [nI_toInt (by omega)]
    have : (0 : Int32).toInt = 0 := rfl
    omega)
  obtain ⟨j, hj, rfl⟩ := nI_of h0
  rw [qlt hj (by omega)] at h1
  rw [qle hj hk] at h2
  exact ⟨j, by omega, by omega, rfl⟩
theorem rq_neg {x : Int32} (h : ¬ x < 0) : ∃ n : Nat, n < 2 ^ 31 ∧ x = nI n := nI_of h
theorem is1 {x lo hi : Int32} (h1 : ¬ x < lo) (h2 : ¬ hi < x) : nI 1 = nI (if lo ≤ x ∧ x ≤ hi then 1 else 0) := by rw [if_pos ⟨Int32.not_lt.mp h1, Int32.not_lt.mp h2⟩]
theorem is0a {x lo hi : Int32} (h : x < lo) : nI 0 = nI (if lo ≤ x ∧ x ≤ hi then 1 else 0) := by rw [if_neg (fun q => absurd h (Int32.not_lt.mpr q.1))]
theorem is0b {x lo hi : Int32} (h : hi < x) : nI 0 = nI (if lo ≤ x ∧ x ≤ hi then 1 else 0) := by rw [if_neg (fun q => absurd h (Int32.not_lt.mpr q.2))]
/-- between the ends: a natural there, or not -/
theorem isY {n lo hi : Nat} (h1 : lo ≤ n) (h2 : n ≤ hi) (hk : hi < 2 ^ 31) : (if nI lo ≤ nI n ∧ nI n ≤ nI hi then 1 else 0) = 1 := if_pos ⟨nI_le h1 (by omega), nI_le h2 hk⟩
theorem isN {x : Int32} {lo hi : Nat} (hl : lo ≤ hi) (hk : hi < 2 ^ 31) (h : ∀ n : Nat, lo ≤ n → n ≤ hi → x ≠ nI n) : (if nI lo ≤ x ∧ x ≤ nI hi then 1 else 0) = 0 := if_neg (fun q => by
  obtain ⟨n, h1, h2, h3⟩ := rq_mid hl hk (Int32.not_lt.mpr q.1) q.2
  exact h n h1 h2 h3)
/-- nothing lies from 0 to -1 -/
theorem isE {x : Int32} : (if nI 0 ≤ x ∧ x ≤ nI 0 - nI 1 then 1 else 0) = 0 := if_neg (fun q => by
  have h1 := Int32.le_iff_toInt_le.mp q.1
  have h2 := Int32.le_iff_toInt_le.mp q.2
  have e1 : (nI 0).toInt = 0 := by decide
  have e2 : (nI 0 - nI 1).toInt = -1 := by decide
  omega)
abbrev fP (D : va_G) (tys : fTy) (z : Nat) (sz : Nat) (ws : va_W) : State → Prop := fun U => U.heap.size = sz ∧ va_P D vwCl ws U.heap ∧ va_K D vwCl tys U ∧ va_D (fun _ => True) ws ∧ gS z (va_A ws sz) U U.heap
abbrev fB (D : va_G) (tys : fTy) (A : Nat → Prop) (ws : va_W) (t : State) : Prop := va_P D vwCl ws t.heap ∧ va_K D vwCl tys t ∧ va_D A ws
/-- a place of a method's words -/
theorem wAt {ws : List Cond} {args : Array Value} {s : State} (hts : ∀ w ∈ ws, w.before args s = true) (i : Nat) {w : Cond} (h : ws[i]? = some w) : w.before args s = true := hts w (List.mem_of_getElem? h)
theorem fP_blind {D : va_G} {tys : fTy} {z sz : Nat} {ws : va_W} {av : List Value} : FrameBlind (va_Pc av (fP D tys z sz ws)) := fun a U g mk q => by
  obtain ⟨q0, q1, q2, q3, q4, q5⟩ := q
  exact ⟨q0, q1, q2, va_K.moved (u := U) (U := U.calling g mk a) (Vm.Alike.refl U.vm) q3, q4, gS_same (u := U) (U := U.calling g mk a) rfl q5⟩
/-- what a callee asks of the caller's heap, for the cells at the places isC -/
theorem fPs {D : va_G} {tys : fTy} {z : Nat} {ws wc : va_W} {A : Nat → Prop} {s : State} {H : Heap} {locs : List Loc} {As : List Value} (hK : va_K D vwCl tys s) (hP : va_P D vwCl ws H) (hD : va_D A ws) (hS : va_S A s.heap H locs) (hG : gS z A s s.heap) (hF : ∀ q, va_A wc H.size q → A q)
    (isC : List Nat) (h2 : va_nd isC = true) (h3 : isC.map (fun i => ws[i]?) = wc.map some) : PreS s H (va_Pc As (fP D tys z H.size wc)) As := by
  have h1 : isC.filterMap (fun i => ws[i]?) = wc := by
    have e : isC.filterMap (fun i => ws[i]?) = (isC.map (fun i => ws[i]?)).filterMap id := by rw [List.filterMap_map]; rfl
    rw [e, h3, List.filterMap_map]
    simp
  refine ⟨fP_blind, fun U hU hW => ⟨rfl, by rw [hU], by rw [hU]; exact hP.sub isC h1, va_K.moved hW.alike hK, (hD.sub isC h2 h3).weaken (fun _ _ _ _ => trivial), ?_⟩⟩
  rw [hU]
  exact gS_warm hW (gS_narrow (gS_kept hG hS.2.1) hF)
theorem fPv {D : va_G} {tys : fTy} {z : Nat} {ws wc : va_W} {A : Nat → Prop} {s : State} {H : Heap} {locs : List Loc} {As : List Value} {b : Addr} {C : String} (hK : va_K D vwCl tys s) (hP : va_P D vwCl ws H) (hD : va_D A ws) (hS : va_S A s.heap H locs) (hG : gS z A s s.heap) (hF : ∀ q, va_A wc H.size q → A q)
    (isC : List Nat) (h2 : va_nd isC = true) (h3 : isC.map (fun i => ws[i]?) = wc.map some) (q0 ci : Nat) {q : vw_C} {fs : List Value} (he : ws[q0]? = some (b, .inr (ci, fs))) (hc : vwCl[ci]? = some q) (hq : q.1 = C) : PreV s H C b (va_Pc (.ref b :: As) (fP D tys z H.size wc)) As := by
  subst hq
  have h := fPs (As := .ref b :: As) hK hP hD hS hG hF isC h2 h3
  exact ⟨h.1, va_recv hK hP hc he, h.2⟩
/-- behind a call: the rest and what came back -/
theorem fJ {D : va_G} {tys : fTy} {A0 : Nat → Prop} {ws wc wr w1 : va_W} {H H1 : Heap} {t : State} (hP : va_P D vwCl ws H) (hD : va_D A0 ws) (isC isR : List Nat) (hC : isC.map (fun i => ws[i]?) = wc.map some) (hR : isR.map (fun i => ws[i]?) = wr.map some) (hn : va_nd isR = true) (hdis : ∀ i ∈ isR, i ∉ isC)
    (hk : ∀ q : Nat, q < H.size → ¬ va_A wc H.size q → H1[q]? = H[q]?) (hF : ∀ q, va_A wc H.size q → A0 q) (ht : t.heap = H1) (hB : fB D tys (va_A wc H.size) w1 t) : va_P D vwCl (wr ++ w1) H1 ∧ va_D A0 (wr ++ w1) := by
  obtain ⟨h1, -, h3⟩ := hB
  rw [ht] at h1
  exact va_join hP hD isC isR hC hR hn hdis hk hF h1 h3
/-- the contracts' shapes, by what comes back -/
abbrev mV (l : Launch) (D : va_G) (tys : fTy) (z : Nat) (y : MethodName) (ws : List Cond) (rm : Room) (av : List Value) (w0 : va_W) (post : va_W → Prop) : Prop := ∀ sz : Nat, Met l y ws rm (va_Pc av (fP D tys z sz w0)) (va_Qv post (fB D tys (va_A w0 sz)) (va_A w0 sz)) rm.cells rm.slots (va_A w0 sz)
abbrev mI (l : Launch) (D : va_G) (tys : fTy) (z : Nat) (y : MethodName) (ws : List Cond) (rm : Room) (av : List Value) (w0 : va_W) (post : Int32 → va_W → Prop) : Prop := ∀ sz : Nat, Met l y ws rm (va_Pc av (fP D tys z sz w0)) (va_Qi post (fB D tys (va_A w0 sz)) (va_A w0 sz)) rm.cells rm.slots (va_A w0 sz)
abbrev mL (l : Launch) (D : va_G) (tys : fTy) (z : Nat) (y : MethodName) (ws : List Cond) (rm : Room) (av : List Value) (w0 : va_W) (post : Int64 → va_W → Prop) : Prop := ∀ sz : Nat, Met l y ws rm (va_Pc av (fP D tys z sz w0)) (va_Ql post (fB D tys (va_A w0 sz)) (va_A w0 sz)) rm.cells rm.slots (va_A w0 sz)
abbrev mD (l : Launch) (D : va_G) (tys : fTy) (z : Nat) (y : MethodName) (ws : List Cond) (rm : Room) (av : List Value) (w0 : va_W) (post : UInt64 → va_W → Prop) : Prop := ∀ sz : Nat, Met l y ws rm (va_Pc av (fP D tys z sz w0)) (va_Qd post (fB D tys (va_A w0 sz)) (va_A w0 sz)) rm.cells rm.slots (va_A w0 sz)
abbrev mR (l : Launch) (D : va_G) (tys : fTy) (z : Nat) (y : MethodName) (ws : List Cond) (rm : Room) (av : List Value) (w0 : va_W) (post : Nat → va_W → Prop) : Prop := ∀ sz : Nat, Met l y ws rm (va_Pc av (fP D tys z sz w0)) (va_Qr (fun u : Nat × va_W => post u.1 u.2) (fun u a t => u.1 = a ∧ fB D tys (va_A w0 sz) u.2 t) (va_A w0 sz)) rm.cells rm.slots (va_A w0 sz)
/-- an exception E that leaves, with the world behind it -/
abbrev xC (D : va_G) (tys : fTy) (A : Nat → Prop) (xpost : String → va_W → Prop) : String → State → State → Prop := vx_X (fun u : String × va_W => xpost u.1 u.2) (fun E u t => u.1 = E ∧ fB D tys A u.2 t) A
abbrev xV (l : Launch) (D : va_G) (tys : fTy) (z : Nat) (y : MethodName) (ws : List Cond) (rm : Room) (av : List Value) (w0 : va_W) (post : va_W → Prop) (xpost : String → va_W → Prop) : Prop := ∀ sz : Nat, vx_Met l y ws rm (va_Pc av (fP D tys z sz w0)) (va_Qv post (fB D tys (va_A w0 sz)) (va_A w0 sz)) (xC D tys (va_A w0 sz) xpost) rm.cells rm.slots (va_A w0 sz)
abbrev xI (l : Launch) (D : va_G) (tys : fTy) (z : Nat) (y : MethodName) (ws : List Cond) (rm : Room) (av : List Value) (w0 : va_W) (post : Int32 → va_W → Prop) (xpost : String → va_W → Prop) : Prop := ∀ sz : Nat, vx_Met l y ws rm (va_Pc av (fP D tys z sz w0)) (va_Qi post (fB D tys (va_A w0 sz)) (va_A w0 sz)) (xC D tys (va_A w0 sz) xpost) rm.cells rm.slots (va_A w0 sz)
abbrev xD (l : Launch) (D : va_G) (tys : fTy) (z : Nat) (y : MethodName) (ws : List Cond) (rm : Room) (av : List Value) (w0 : va_W) (post : UInt64 → va_W → Prop) (xpost : String → va_W → Prop) : Prop := ∀ sz : Nat, vx_Met l y ws rm (va_Pc av (fP D tys z sz w0)) (va_Qd post (fB D tys (va_A w0 sz)) (va_A w0 sz)) (xC D tys (va_A w0 sz) xpost) rm.cells rm.slots (va_A w0 sz)
abbrev xR (l : Launch) (D : va_G) (tys : fTy) (z : Nat) (y : MethodName) (ws : List Cond) (rm : Room) (av : List Value) (w0 : va_W) (post : Nat → va_W → Prop) (xpost : String → va_W → Prop) : Prop := ∀ sz : Nat, vx_Met l y ws rm (va_Pc av (fP D tys z sz w0)) (va_Qr (fun u : Nat × va_W => post u.1 u.2) (fun u a t => u.1 = a ∧ fB D tys (va_A w0 sz) u.2 t) (va_A w0 sz)) (xC D tys (va_A w0 sz) xpost) rm.cells rm.slots (va_A w0 sz)
/-- what stands at a method's entry -/
abbrev fE (p : Program) (s : State) (m : MethodId) (args : Array Value) (meth : Method) (c : Code) (D : va_G) (tys : fTy) (z : Nat) (ws : List Cond) (own : String) (cc : ByteArray) (maxL : Nat) (ret : Option FieldType) (av : List Value) (w0 : va_W) (A : Nat → Prop) (ls : Array Slot) : Prop :=
  p.tables.exec = Jvm.exec ∧ c.code = cc ∧ meth.sig.returnType = ret ∧ c.maxLocals = maxL ∧ (∀ w ∈ ws, w.before args s = true) ∧ s.vm.findClass own = some m.cls ∧ meth.locks = false ∧ (∀ q, s.heap.size ≤ q → A q) ∧ va_S A s.heap s.heap [] ∧ va_P D vwCl w0 s.heap ∧ va_K D vwCl tys s ∧ va_D A w0 ∧ gS z A s s.heap ∧ lv_has ls maxL (lv_args 0 av)
theorem fEof {p : Program} {l : Launch} {e : Env} {s : State} {m : MethodId} {args : Array Value} {below : List Frame} {meth : Method} {c : Code} {s₁ : State} {D : va_G} {tys : fTy} {z : Nat} {y : MethodName} {ws : List Cond} {rm : Room} {cc : ByteArray} {maxL : Nat} {ret : Option FieldType} {av : List Value} {w0 : va_W} {sz : Nat} (own : String) (hcls : y.cls = own) (hlen : (lg_sl av).length ≤ maxL)
    (B : BodyLoose p l y (headSpec ws rm) cc maxL ret e s m args below meth c s₁) (hml : c.maxLocals = maxL) (hv : va_Pc av (fP D tys z sz w0) args s) :
    ∃ ls : Array Slot, entryFrame m args maxL = F0 m 0 ls [] ∧ fE p s m args meth c D tys z ws own cc maxL ret av w0 (va_A w0 sz) ls := by
  obtain ⟨rfl, hsz, hP, hK, hD0, hG⟩ := hv
  subst hsz
  subst hcls
  exact ⟨_, lg_entry_eq _ _ _, B.exec, B.bytes, B.returns, hml, atoms_spec (ws := ws) B.pre, findClass_of_methodNamed B.named, B.notSynchronized, fun q h => Or.inr h, va_S.rf, hP, hK, hD0.self, hG, lv_entry av hlen⟩
section OF
variable {l : Launch} {D : va_G} {tys : fTy} {z : Nat} {y : MethodName} {ws ws' : List Cond} {rm : Room} {av : List Value} {w0 : va_W} {cc : ByteArray} {maxL : Nat} {ty : FieldType} {xpost : String → va_W → Prop}
theorem ofV {post : va_W → Prop} (own : String) (hcls : y.cls = own) (hpn : plainName y.cls = true) (hw : ws = Cond.code y cc maxL none :: ws') (hlen : (lg_sl av).length ≤ maxL)
    (body : ∀ (p : Program) (e : Env) (s : State) (m : MethodId) (args : Array Value) (below : List Frame) (meth : Method) (c : Code) (A : Nat → Prop) (ls : Array Slot), meth.name = y.name → fE p s m args meth c D tys z ws own cc maxL none av w0 A ls → W p l e rm s m args below meth c s.heap [] 0 0 (MQ below (va_Qv post (fB D tys A) A) args s rm.cells rm.slots A) (F0 m 0 ls [])) : mV l D tys z y ws rm av w0 post := by
  intro sz
  refine Met.ofW (cc := cc) (maxL := maxL) (ret := none) hpn hw ?_
  intro p e s m args below meth c s₁ B hml hv
  obtain ⟨ls, e1, hE⟩ := fEof own hcls hlen B hml hv
  rw [e1]
  exact body p e s m args below meth c _ ls (name_of_methodNamed B.named B.method).1 hE
theorem ofI {post : Int32 → va_W → Prop} (own : String) (hcls : y.cls = own) (hpn : plainName y.cls = true) (hw : ws = Cond.code y cc maxL (some ty) :: ws') (hlen : (lg_sl av).length ≤ maxL)
    (body : ∀ (p : Program) (e : Env) (s : State) (m : MethodId) (args : Array Value) (below : List Frame) (meth : Method) (c : Code) (A : Nat → Prop) (ls : Array Slot), fE p s m args meth c D tys z ws own cc maxL (some ty) av w0 A ls → W p l e rm s m args below meth c s.heap [] 0 0 (MQ below (va_Qi post (fB D tys A) A) args s rm.cells rm.slots A) (F0 m 0 ls [])) : mI l D tys z y ws rm av w0 post := by
  intro sz
  refine Met.ofW (cc := cc) (maxL := maxL) (ret := some ty) hpn hw ?_
  intro p e s m args below meth c s₁ B hml hv
  obtain ⟨ls, e1, hE⟩ := fEof own hcls hlen B hml hv
  rw [e1]
  exact body p e s m args below meth c _ ls hE
theorem ofL {post : Int64 → va_W → Prop} (own : String) (hcls : y.cls = own) (hpn : plainName y.cls = true) (hw : ws = Cond.code y cc maxL (some ty) :: ws') (hlen : (lg_sl av).length ≤ maxL)
    (body : ∀ (p : Program) (e : Env) (s : State) (m : MethodId) (args : Array Value) (below : List Frame) (meth : Method) (c : Code) (A : Nat → Prop) (ls : Array Slot), fE p s m args meth c D tys z ws own cc maxL (some ty) av w0 A ls → W p l e rm s m args below meth c s.heap [] 0 0 (MQ below (va_Ql post (fB D tys A) A) args s rm.cells rm.slots A) (F0 m 0 ls [])) : mL l D tys z y ws rm av w0 post := by
  intro sz
  refine Met.ofW (cc := cc) (maxL := maxL) (ret := some ty) hpn hw ?_
  intro p e s m args below meth c s₁ B hml hv
  obtain ⟨ls, e1, hE⟩ := fEof own hcls hlen B hml hv
  rw [e1]
  exact body p e s m args below meth c _ ls hE
theorem ofD {post : UInt64 → va_W → Prop} (own : String) (hcls : y.cls = own) (hpn : plainName y.cls = true) (hw : ws = Cond.code y cc maxL (some ty) :: ws') (hlen : (lg_sl av).length ≤ maxL)
    (body : ∀ (p : Program) (e : Env) (s : State) (m : MethodId) (args : Array Value) (below : List Frame) (meth : Method) (c : Code) (A : Nat → Prop) (ls : Array Slot), fE p s m args meth c D tys z ws own cc maxL (some ty) av w0 A ls → W p l e rm s m args below meth c s.heap [] 0 0 (MQ below (va_Qd post (fB D tys A) A) args s rm.cells rm.slots A) (F0 m 0 ls [])) : mD l D tys z y ws rm av w0 post := by
  intro sz
  refine Met.ofW (cc := cc) (maxL := maxL) (ret := some ty) hpn hw ?_
  intro p e s m args below meth c s₁ B hml hv
  obtain ⟨ls, e1, hE⟩ := fEof own hcls hlen B hml hv
  rw [e1]
  exact body p e s m args below meth c _ ls hE
theorem ofR {post : Nat → va_W → Prop} (own : String) (hcls : y.cls = own) (hpn : plainName y.cls = true) (hw : ws = Cond.code y cc maxL (some ty) :: ws') (hlen : (lg_sl av).length ≤ maxL)
    (body : ∀ (p : Program) (e : Env) (s : State) (m : MethodId) (args : Array Value) (below : List Frame) (meth : Method) (c : Code) (A : Nat → Prop) (ls : Array Slot), fE p s m args meth c D tys z ws own cc maxL (some ty) av w0 A ls → W p l e rm s m args below meth c s.heap [] 0 0 (MQ below (va_Qr (fun u : Nat × va_W => post u.1 u.2) (fun u a t => u.1 = a ∧ fB D tys A u.2 t) A) args s rm.cells rm.slots A) (F0 m 0 ls [])) : mR l D tys z y ws rm av w0 post := by
  intro sz
  refine Met.ofW (cc := cc) (maxL := maxL) (ret := some ty) hpn hw ?_
  intro p e s m args below meth c s₁ B hml hv
  obtain ⟨ls, e1, hE⟩ := fEof own hcls hlen B hml hv
  rw [e1]
  exact body p e s m args below meth c _ ls hE
theorem ofxV {post : va_W → Prop} (own : String) (hcls : y.cls = own) (hpn : plainName y.cls = true) (hw : ws = Cond.code y cc maxL none :: ws') (hlen : (lg_sl av).length ≤ maxL)
    (body : ∀ (p : Program) (e : Env) (s : State) (m : MethodId) (args : Array Value) (below : List Frame) (meth : Method) (c : Code) (A : Nat → Prop) (ls : Array Slot), (∀ x ∈ c.exceptionTable.toList, False) → fE p s m args meth c D tys z ws own cc maxL none av w0 A ls → W p l e rm s m args below meth c s.heap [] 0 0 (vx_MQ below (va_Qv post (fB D tys A) A) (xC D tys A xpost) args s rm.cells rm.slots A) (F0 m 0 ls [])) : xV l D tys z y ws rm av w0 post xpost := by
  intro sz
  refine vx_ofW (cc := cc) (maxL := maxL) (ret := none) hpn hw ?_
  intro p e s m args below meth c s₁ B hml hx hv
  obtain ⟨ls, e1, hE⟩ := fEof own hcls hlen B hml hv
  rw [e1]
  exact body p e s m args below meth c _ ls hx hE
theorem ofxI {post : Int32 → va_W → Prop} (own : String) (hcls : y.cls = own) (hpn : plainName y.cls = true) (hw : ws = Cond.code y cc maxL (some ty) :: ws') (hlen : (lg_sl av).length ≤ maxL)
    (body : ∀ (p : Program) (e : Env) (s : State) (m : MethodId) (args : Array Value) (below : List Frame) (meth : Method) (c : Code) (A : Nat → Prop) (ls : Array Slot), (∀ x ∈ c.exceptionTable.toList, False) → fE p s m args meth c D tys z ws own cc maxL (some ty) av w0 A ls → W p l e rm s m args below meth c s.heap [] 0 0 (vx_MQ below (va_Qi post (fB D tys A) A) (xC D tys A xpost) args s rm.cells rm.slots A) (F0 m 0 ls [])) : xI l D tys z y ws rm av w0 post xpost := by
  intro sz
  refine vx_ofW (cc := cc) (maxL := maxL) (ret := some ty) hpn hw ?_
  intro p e s m args below meth c s₁ B hml hx hv
  obtain ⟨ls, e1, hE⟩ := fEof own hcls hlen B hml hv
  rw [e1]
  exact body p e s m args below meth c _ ls hx hE
theorem ofxD {post : UInt64 → va_W → Prop} (own : String) (hcls : y.cls = own) (hpn : plainName y.cls = true) (hw : ws = Cond.code y cc maxL (some ty) :: ws') (hlen : (lg_sl av).length ≤ maxL)
    (body : ∀ (p : Program) (e : Env) (s : State) (m : MethodId) (args : Array Value) (below : List Frame) (meth : Method) (c : Code) (A : Nat → Prop) (ls : Array Slot), (∀ x ∈ c.exceptionTable.toList, False) → fE p s m args meth c D tys z ws own cc maxL (some ty) av w0 A ls → W p l e rm s m args below meth c s.heap [] 0 0 (vx_MQ below (va_Qd post (fB D tys A) A) (xC D tys A xpost) args s rm.cells rm.slots A) (F0 m 0 ls [])) : xD l D tys z y ws rm av w0 post xpost := by
  intro sz
  refine vx_ofW (cc := cc) (maxL := maxL) (ret := some ty) hpn hw ?_
  intro p e s m args below meth c s₁ B hml hx hv
  obtain ⟨ls, e1, hE⟩ := fEof own hcls hlen B hml hv
  rw [e1]
  exact body p e s m args below meth c _ ls hx hE
theorem ofxR {post : Nat → va_W → Prop} (own : String) (hcls : y.cls = own) (hpn : plainName y.cls = true) (hw : ws = Cond.code y cc maxL (some ty) :: ws') (hlen : (lg_sl av).length ≤ maxL)
    (body : ∀ (p : Program) (e : Env) (s : State) (m : MethodId) (args : Array Value) (below : List Frame) (meth : Method) (c : Code) (A : Nat → Prop) (ls : Array Slot), (∀ x ∈ c.exceptionTable.toList, False) → fE p s m args meth c D tys z ws own cc maxL (some ty) av w0 A ls → W p l e rm s m args below meth c s.heap [] 0 0 (vx_MQ below (va_Qr (fun u : Nat × va_W => post u.1 u.2) (fun u a t => u.1 = a ∧ fB D tys A u.2 t) A) (xC D tys A xpost) args s rm.cells rm.slots A) (F0 m 0 ls [])) : xR l D tys z y ws rm av w0 post xpost := by
  intro sz
  refine vx_ofW (cc := cc) (maxL := maxL) (ret := some ty) hpn hw ?_
  intro p e s m args below meth c s₁ B hml hx hv
  obtain ⟨ls, e1, hE⟩ := fEof own hcls hlen B hml hv
  rw [e1]
  exact body p e s m args below meth c _ ls hx hE
end OF
section ENDS
variable {p : Program} {l : Launch} {e : Env} {R : Room} {s : State} {m : MethodId} {args : Array Value} {below : List Frame} {meth : Method} {c : Code} {H : Heap} {locs : List Loc} {cells slots mc ms : Nat} {cc : ByteArray} {pc : Nat} {ls : Array Slot} {D : va_G} {tys : fTy} {A : Nat → Prop} {w1 : va_W}
theorem endV {post : va_W → Prop} (hx : p.tables.exec = Jvm.exec) (hb : c.code = cc) (hr : meth.sig.returnType = none) (hlocks : meth.locks = false) (hK : va_K D vwCl tys s) (hP : va_P D vwCl w1 H) (hD : va_D A w1) (hS : va_S A s.heap H locs) (hpost : post w1) (hc : cells ≤ mc) (hs : slots ≤ ms) (hdg : decode cc pc = .ok (.return_, 1)) :
    W p l e R s m args below meth c H locs cells slots (MQ below (va_Qv post (fB D tys A) A) args s mc ms A) (F0 m pc ls []) :=
  W.widen hc hs (W.vret hx hb hr (fun t ht hW => ⟨⟨w1, rfl, hpost, by rw [ht]; exact hP, va_K.moved hW.alike hK, hD⟩, hS.F ht⟩) hS.2.2 hdg hlocks)
theorem endI {post : Int32 → va_W → Prop} {v : Int32} (hx : p.tables.exec = Jvm.exec) (hb : c.code = cc) (hr : meth.sig.returnType = some .int) (hlocks : meth.locks = false) (hK : va_K D vwCl tys s) (hP : va_P D vwCl w1 H) (hD : va_D A w1) (hS : va_S A s.heap H locs) (hpost : post v w1) (hc : cells ≤ mc) (hs : slots ≤ ms) (hdg : decode cc pc = .ok (.ireturn, 1)) :
    W p l e R s m args below meth c H locs cells slots (MQ below (va_Qi post (fB D tys A) A) args s mc ms A) (F0 m pc ls [.int v]) :=
  W.widen hc hs (W.iret hx hb hr (fun t ht hW => ⟨⟨v, w1, rfl, hpost, by rw [ht]; exact hP, va_K.moved hW.alike hK, hD⟩, hS.F ht⟩) hS.2.2 hdg hlocks)
theorem endZ {post : Int32 → va_W → Prop} {v : Int32} (hx : p.tables.exec = Jvm.exec) (hb : c.code = cc) (hr : meth.sig.returnType = some .boolean) (hlocks : meth.locks = false) (hv : narrow .boolean (.int v) = .int v) (hK : va_K D vwCl tys s) (hP : va_P D vwCl w1 H) (hD : va_D A w1) (hS : va_S A s.heap H locs) (hpost : post v w1) (hc : cells ≤ mc) (hs : slots ≤ ms) (hdg : decode cc pc = .ok (.ireturn, 1)) :
    W p l e R s m args below meth c H locs cells slots (MQ below (va_Qi post (fB D tys A) A) args s mc ms A) (F0 m pc ls [.int v]) :=
  W.widen hc hs (W.zret hx hb hr hv (fun t ht hW => ⟨⟨v, w1, rfl, hpost, by rw [ht]; exact hP, va_K.moved hW.alike hK, hD⟩, hS.F ht⟩) hS.2.2 hdg hlocks)
theorem endL {post : Int64 → va_W → Prop} {v : Int64} (hx : p.tables.exec = Jvm.exec) (hb : c.code = cc) (hr : meth.sig.returnType = some .long) (hlocks : meth.locks = false) (hK : va_K D vwCl tys s) (hP : va_P D vwCl w1 H) (hD : va_D A w1) (hS : va_S A s.heap H locs) (hpost : post v w1) (hc : cells ≤ mc) (hs : slots ≤ ms) (hdg : decode cc pc = .ok (.lreturn, 1)) :
    W p l e R s m args below meth c H locs cells slots (MQ below (va_Ql post (fB D tys A) A) args s mc ms A) (F0 m pc ls [.long v]) :=
  W.widen hc hs (W.lret hx hb hr (fun t ht hW => ⟨⟨v, w1, rfl, hpost, by rw [ht]; exact hP, va_K.moved hW.alike hK, hD⟩, hS.F ht⟩) hS.2.2 hdg hlocks)
theorem endD {post : UInt64 → va_W → Prop} {v : UInt64} (hx : p.tables.exec = Jvm.exec) (hb : c.code = cc) (hr : meth.sig.returnType = some .double) (hlocks : meth.locks = false) (hK : va_K D vwCl tys s) (hP : va_P D vwCl w1 H) (hD : va_D A w1) (hS : va_S A s.heap H locs) (hpost : post v w1) (hc : cells ≤ mc) (hs : slots ≤ ms) (hdg : decode cc pc = .ok (.dreturn, 1)) :
    W p l e R s m args below meth c H locs cells slots (MQ below (va_Qd post (fB D tys A) A) args s mc ms A) (F0 m pc ls [.double v]) :=
  W.widen hc hs (W.dret hx hb hr (fun t ht hW => ⟨⟨v, w1, rfl, hpost, by rw [ht]; exact hP, va_K.moved hW.alike hK, hD⟩, hS.F ht⟩) hS.2.2 hdg hlocks)
theorem endR {post : Nat → va_W → Prop} {a : Nat} {rt : FieldType} (hx : p.tables.exec = Jvm.exec) (hb : c.code = cc) (hr : meth.sig.returnType = some rt) (hrt : (∃ n, rt = .object n) ∨ ∃ t, rt = .array t) (hlocks : meth.locks = false) (hK : va_K D vwCl tys s) (hP : va_P D vwCl w1 H) (hD : va_D A w1) (hS : va_S A s.heap H locs) (hpost : post a w1) (hc : cells ≤ mc) (hs : slots ≤ ms) (hdg : decode cc pc = .ok (.areturn, 1)) :
    W p l e R s m args below meth c H locs cells slots (MQ below (va_Qr (fun u : Nat × va_W => post u.1 u.2) (fun u a t => u.1 = a ∧ fB D tys A u.2 t) A) args s mc ms A) (F0 m pc ls [.ref a]) :=
  W.widen hc hs (W.aret hx hb hr hrt (Or.inr ⟨a, rfl⟩) (fun t ht hW => ⟨⟨(a, w1), a, rfl, hpost, rfl, by rw [ht]; exact hP, va_K.moved hW.alike hK, hD⟩, hS.F ht⟩) hS.2.2 hdg hlocks)
/-- an exception leaves, the world as it is -/
theorem xEnd {xpost : String → va_W → Prop} {E : String} (hK : va_K D vwCl tys s) (hP : va_P D vwCl w1 H) (hD : va_D A w1) (hS : va_S A s.heap H locs) (hxp : xpost E w1) : ∀ t : State, s.vm.Alike t.vm → H.size ≤ t.heap.size → (∀ q : Nat, q < H.size → t.heap[q]? = H[q]?) → xC D tys A xpost E s t := fun t hvm hz hk =>
  ⟨(E, w1), hxp, ⟨rfl, hP.kept (fun k q h => hk q.1 (hP k q h).lt), va_K.moved hvm hK, hD⟩, ⟨Nat.le_trans hS.1 hz, fun q h1 h2 => (hk q (Nat.lt_of_lt_of_le h1 hS.1)).trans (hS.2.1 q h1 h2)⟩⟩
theorem xEnd0 {xpost : String → va_W → Prop} {E : String} (hK : va_K D vwCl tys s) (hP : va_P D vwCl w1 H) (hD : va_D A w1) (hS : va_S A s.heap H locs) (hxp : xpost E w1) : ∀ t : State, t.heap = H → s.vm.Alike t.vm → xC D tys A xpost E s t := fun t ht hvm => xEnd hK hP hD hS hxp t hvm (by rw [ht]; exact Nat.le_refl _) (fun q _ => by rw [ht])
end ENDS
section RX
variable {p : Program} {l : Launch} {e : Env} {R : Room} {s : State} {m : MethodId} {args : Array Value} {below : List Frame} {meth : Method} {c : Code} {H : Heap} {locs : List Loc} {cells slots : Nat} {Q : State → Prop}
variable {mc ms : Nat} {free : Addr → Prop} {A0 A1 : Nat → Prop} {H0 : Heap} {a : Array Value} {pc : Nat} {ls : Array Slot} {st0 rest : List Value}
/-- vx_calli's like, for an answer that is a cell (begun from vx_calli) -/
theorem vx_callr {S SX : Type} {post : S → Prop} {px : SX → Prop} {B : S → Nat → State → Prop} {BX : String → SX → State → Prop} {AX : Nat → Prop} (hr : vx_Run p l e R s m args below meth c H locs cells slots mc ms (F0 m pc ls st0) rest (va_Qr post B A1 a) (vx_X px BX AX) free) (hS : va_S A0 H0 H locs) (hA : ∀ q, q < H.size → A1 q → A0 q) (hf : ∀ q, free q → A0 q) (hAX : ∀ q, q < H.size → AX q → A0 q)
    (kx : ∀ (E : String) (ce : Cell) (q9 : Addr) (u : SX) (t : State) (H1 : Heap) (locs1 : List Loc), t.heap = H1 → s.vm.Alike t.vm → px u → BX E u t → H.size ≤ H1.size → (∀ q : Nat, q < H.size → ¬ AX q → H1[q]? = H[q]?) → va_S A0 H0 H1 locs1 → H1[q9]? = some ce → ce.vm = .none → s.vm.findClass E = some ce.cls → vx_W p l e R s m args below meth c H1 locs1 (cells + mc) (slots + ms) Q (F0 m pc ls rest) q9)
    (kk : ∀ (u : S) (ra : Nat) (t : State) (H1 : Heap) (locs1 : List Loc), t.heap = H1 → s.vm.Alike t.vm → post u → B u ra t → H.size ≤ H1.size → (∀ q : Nat, q < H.size → ¬ A1 q → H1[q]? = H[q]?) → va_S A0 H0 H1 locs1 → W p l e R s m args below meth c H1 locs1 (cells + mc) (slots + ms) Q (F0 m (pc + 3) ls (.ref ra :: rest))) : W p l e R s m args below meth c H locs cells slots Q (F0 m pc ls st0) := by
  intro T hT X
  rcases hr T hT X with ⟨v, st₀, t, T', L, h0, X', hL, e1, e2, ⟨⟨u, ra, hv, hp, hb⟩, hF⟩, st⟩ | ⟨q, st₀, t, T', L, E, ce, h0, X', hL, e1, e2, ⟨u, hp, hb, hF⟩, hce, hcv, hcl, st⟩
  · cases hv
    obtain ⟨k1, k2, k3⟩ := vx_keep h0 e1 hS hA hf hL hF
    obtain ⟨t2, a1, b1⟩ := kk u ra t T'.heap (locs ++ L) e1.symm (by rw [← e2]; exact X'.warmed.alike) hp hb k1 k2 k3 T' rfl X'
    exact ⟨t2, st t2 a1, b1⟩
  · obtain ⟨k1, k2, k3⟩ := vx_keep h0 e1 hS hAX hf hL hF
    obtain ⟨t2, a1, b1⟩ := kx E ce q u t T'.heap (locs ++ L) e1.symm (by rw [← e2]; exact X'.warmed.alike) hp hb k1 k2 k3 (by rw [e1]; exact hce) hcv hcl T' rfl X'
    exact ⟨t2, st.trans a1, b1⟩
end RX
end MK
