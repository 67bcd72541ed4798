/-! Calls over the whole bench: its world stands behind a few cells of the caller's own. -/
section CH
variable {D : va_G} {tys : fTy} {z : Nat} {A A0 : Nat → Prop} {o wc w1 : va_W} {H H1 H0 : Heap} {locs : List Loc} {s t : State} {kA : Nat → ClassId} {B : BS} {be : Nat} {As : List Value}
theorem chP (hP : va_P D vwCl (o ++ wc) H) : va_P D vwCl wc H := vP_iff.mpr fun q hq => vP_iff.mp hP q (List.mem_append_right _ hq)
theorem chD (hD : va_D A (o ++ wc)) : va_D A wc := by
  rw [vD_iff] at hD ⊢
  rw [List.map_append, List.nodup_append] at hD
  exact ⟨hD.1.2.1, fun q hq => hD.2 q (List.mem_append_right _ hq)⟩
theorem chF (o : va_W) (hD : va_D A0 (o ++ wc)) (hS : va_S A0 H0 H locs) (hA : ∀ q, H0.size ≤ q → A0 q) : ∀ q, va_A wc H.size q → A0 q := fun q h => by
  rw [vA_iff] at h
  rcases h with ⟨x, hx, rfl⟩ | h
  · exact (vD_iff.mp hD).2 x (List.mem_append_right _ hx)
  · exact hA q (Nat.le_trans hS.1 h)
theorem chF0 (hS : va_S A0 H0 H locs) (hA : ∀ q, H0.size ≤ q → A0 q) : ∀ q, va_A [] H.size q → A0 q := fun q h => by
  rw [vA_iff] at h
  rcases h with ⟨x, hx, -⟩ | h
  · exact absurd hx List.not_mem_nil
  · exact hA q (Nat.le_trans hS.1 h)
theorem fPq (hK : va_K D vwCl tys s) (hP : va_P D vwCl wc H) (hD : va_D A wc) (hS : va_S A s.heap H locs) (hG : gS z A s s.heap) (hF : ∀ q, va_A wc H.size q → A q) : PreS s H (va_Pc As (fP D tys z H.size wc)) As :=
  ⟨fP_blind, fun U hU hW => ⟨rfl, by rw [hU], by rw [hU]; exact hP, va_K.moved hW.alike hK, hD.weaken (fun _ _ _ _ => trivial), by rw [hU]; exact gS_warm hW (gS_narrow (gS_kept hG hS.2.1) hF)⟩⟩
theorem fPsB (o : va_W) (hK : va_K D vwCl tys s) (hP : va_P D vwCl (o ++ wB kA B) H) (hD : va_D A (o ++ wB kA B)) (hS : va_S A s.heap H locs) (hG : gS z A s s.heap) (hF : ∀ q, va_A (wB kA B) H.size q → A q) : PreS s H (va_Pc As (fP D tys z H.size (wB kA B))) As := fPq hK (chP hP) (chD hD) hS hG hF
theorem fPvB (o : va_W) (hbe : B.2 0 = be) (hK : va_K D vwCl tys s) (hP : va_P D vwCl (o ++ wB kA B) H) (hD : va_D A (o ++ wB kA B)) (hS : va_S A s.heap H locs) (hG : gS z A s s.heap) (hF : ∀ q, va_A (wB kA B) H.size q → A q) : PreV s H RX6 be (va_Pc (.ref be :: As) (fP D tys z H.size (wB kA B))) As := by
  have h := fPq (As := .ref be :: As) hK (chP hP) (chD hD) hS hG hF
  subst hbe
  exact ⟨h.1, va_recv (q0 := 0) hK (chP hP) (show vwCl[5]? = some (RX6, TX6, 7) from rfl) (show (wB kA B)[0]? = some (B.2 0, _) from rfl), h.2⟩
theorem fPs0 (hK : va_K D vwCl tys s) (hS : va_S A s.heap H locs) (hG : gS z A s s.heap) (hF : ∀ q, va_A [] H.size q → A q) : PreS s H (va_Pc As (fP D tys z H.size [])) As :=
  fPq hK (vP_iff.mpr fun q hq => absurd hq List.not_mem_nil) (vD_iff.mpr ⟨List.nodup_nil, fun q hq => absurd hq List.not_mem_nil⟩) hS hG hF
theorem chJ (o : va_W) (hP : va_P D vwCl (o ++ wc) H) (hD : va_D A0 (o ++ wc)) (hk : ∀ q : Nat, q < H.size → ¬ va_A wc H.size q → H1[q]? = H[q]?) (hF : ∀ q, va_A wc H.size q → A0 q) (ht : t.heap = H1) (hB : fB D tys (va_A wc H.size) w1 t) : va_P D vwCl (o ++ w1) H1 ∧ va_D A0 (o ++ w1) := by
  obtain ⟨h1, -, h3⟩ := hB
  rw [ht] at h1
  rw [vP_iff] at hP h1
  rw [vD_iff] at hD h3
  obtain ⟨hn, hA⟩ := hD
  rw [List.map_append, List.nodup_append] at hn
  have hout : ∀ q ∈ o, ¬ va_A wc H.size q.1 := fun q hq ha => by
    rw [vA_iff] at ha
    rcases ha with ⟨x, hx, e⟩ | h
    · exact hn.2.2 q.1 (List.mem_map.mpr ⟨q, hq, rfl⟩) x.1 (List.mem_map.mpr ⟨x, hx, rfl⟩) e.symm
    · have := (hP q (List.mem_append_left _ hq)).lt
      omega
  refine ⟨vP_iff.mpr fun q hq => ?_, vD_iff.mpr ⟨?_, fun q hq => ?_⟩⟩
  · rcases List.mem_append.mp hq with h | h
    · exact (hP q (List.mem_append_left _ h)).kept (hk q.1 (hP q (List.mem_append_left _ h)).lt (hout q h))
    · exact h1 q h
  · rw [List.map_append, List.nodup_append]
    refine ⟨hn.1, h3.1, fun a ha b hb e => ?_⟩
    obtain ⟨x, hx, rfl⟩ := List.mem_map.mp ha
    obtain ⟨y, hy, rfl⟩ := List.mem_map.mp hb
    exact hout x hx (e ▸ h3.2 y hy)
  · rcases List.mem_append.mp hq with h | h
    · exact hA q (List.mem_append_left _ h)
    · exact hF _ (h3.2 q h)
theorem chJ0 (hP : va_P D vwCl o H) (hD : va_D A0 o) (hk : ∀ q : Nat, q < H.size → ¬ va_A [] H.size q → H1[q]? = H[q]?) (hF : ∀ q, va_A [] H.size q → A0 q) (ht : t.heap = H1) (hB : fB D tys (va_A [] H.size) w1 t) : va_P D vwCl (o ++ w1) H1 ∧ va_D A0 (o ++ w1) :=
  chJ (wc := []) o (by rw [List.append_nil]; exact hP) (by rw [List.append_nil]; exact hD) hk hF ht hB
theorem chNewP {x : Nat × va_E} (o wc : va_W) (hP : va_P D vwCl ((o ++ wc) ++ [x]) H) : va_P D vwCl ((x :: o) ++ wc) H := by
  have hp : ((x :: o) ++ wc).Perm ((o ++ wc) ++ [x]) := (List.perm_append_comm (l₁ := [x]) (l₂ := o ++ wc))
  exact vP_iff.mpr fun q hq => vP_iff.mp hP q (hp.mem_iff.mp hq)
theorem chNewD {x : Nat × va_E} (o wc : va_W) (hD : va_D A ((o ++ wc) ++ [x])) : va_D A ((x :: o) ++ wc) := by
  have hp : ((x :: o) ++ wc).Perm ((o ++ wc) ++ [x]) := (List.perm_append_comm (l₁ := [x]) (l₂ := o ++ wc))
  rw [vD_iff] at hD ⊢
  exact ⟨(hp.map (fun q => q.1)).nodup_iff.mpr hD.1, fun q hq => hD.2 q (hp.mem_iff.mp hq)⟩
end CH
section MO
variable {l : Launch} {D : va_G} {tys : fTy} {z : Nat} {y : MethodName} {cs : List Cond} {rm : Room} {av : List Value} {ws : va_W}
theorem moI {post post' : Int32 → va_W → Prop} (h : mI l D tys z y cs rm av ws post) (hq : ∀ r u, post r u → post' r u) : mI l D tys z y cs rm av ws post' :=
  frI (wr := []) h (by rw [List.append_nil]) (fun r u hu => ⟨u, by rw [List.append_nil], hq r u hu⟩)
end MO
theorem BI_T {B : BS} (h : BI B) {k : Nat} {S : TS} (hS : TI S) : BI (uP B.1 k S, B.2) := by
  refine ⟨fun j hj => ?_, h.2⟩
  show TI (uP B.1 k S j)
  by_cases e : j = k
  · rw [e, uP_at]; exact hS
  · rw [uP_ne _ _ e]; exact h.1 j hj
theorem BI_S {B : BS} (h : BI B) {x : Nat} (h6 : 6 ≤ x) (h11 : x ≤ 11) : BI (B.1, uP B.2 2 x) := ⟨h.1, h6, h11, h.2.2.2⟩
theorem BI_R {B : BS} (h : BI B) {k dw n : Nat} {S : TS} (hS : TI S) (hd : dw ≤ 15) : BI (uP B.1 k S, uP (uP B.2 3 dw) 4 n) := ⟨(BI_T h hS).1, h.2.1, h.2.2.1, hd⟩
theorem BI_C {B : BS} (h : BI B) {k i n : Nat} {S : TS} (hS : TI S) (hi : i = 5 ∨ i = 6) : BI (uP B.1 k S, uP B.2 i n) := by
  rcases hi with rfl | rfl <;> exact ⟨(BI_T h hS).1, h.2⟩
/-- the law's own: how many readings there are at most -/
def LI (B : BS) (m : Nat) : Prop := BI B ∧ (∀ k, k < 4 → nn (B.1 k) 3 ≤ B.2 4) ∧ B.2 4 ≤ m ∧ B.2 5 ≤ m ∧ B.2 6 ≤ m
theorem LI.le {B : BS} {m m2 : Nat} (h : LI B m) (hm : m ≤ m2) : LI B m2 := ⟨h.1, h.2.1, by have := h.2.2.1; omega, by have := h.2.2.2.1; omega, by have := h.2.2.2.2; omega⟩
theorem LI_T {B : BS} {m : Nat} (h : LI B m) {k : Nat} (hk : k < 4) {S : TS} (hS : TI S) (h3 : nn S 3 = nn (B.1 k) 3) : LI (uP B.1 k S, B.2) m := by
  refine ⟨BI_T h.1 hS, fun j hj => ?_, h.2.2⟩
  show nn (uP B.1 k S j) 3 ≤ B.2 4
  by_cases e : j = k
  · rw [e, uP_at, h3]; exact h.2.1 k hk
  · rw [uP_ne _ _ e]; exact h.2.1 j hj
theorem LI_R {B : BS} {m : Nat} (h : LI B m) {k dw : Nat} (hk : k < 4) {S : TS} (hS : TI S) (hd : dw ≤ 15) (h3 : nn S 3 = nn (B.1 k) 3 + 1) : LI (uP B.1 k S, uP (uP B.2 3 dw) 4 (B.2 4 + 1)) (m + 1) := by
  refine ⟨BI_R h.1 hS hd, fun j hj => ?_, ?_, ?_, ?_⟩
  · show nn (uP B.1 k S j) 3 ≤ B.2 4 + 1
    by_cases e : j = k
    · rw [e, uP_at, h3]; have := h.2.1 k hk; omega
    · rw [uP_ne _ _ e]; have := h.2.1 j hj; omega
  · show B.2 4 + 1 ≤ m + 1
    have := h.2.2.1; omega
  · show B.2 5 ≤ m + 1
    have := h.2.2.2.1; omega
  · show B.2 6 ≤ m + 1
    have := h.2.2.2.2; omega
section WV
variable {l : Launch} {D : va_G} {tys : fTy} {z : Nat} {y : MethodName} {ws ws' : List Cond} {rm : Room} {av : List Value} {w0 : va_W} {cc : ByteArray} {maxL : Nat} {hh : List (Nat × Nat × Nat × Nat)}
theorem ofWV {post : va_W → Prop} (own : String) (hcls : y.cls = own) (hpn : plainName y.cls = true) (hw : ws = Cond.codeWith y cc maxL none hh :: ws') (hlen : (lg_sl av).length ≤ maxL)
    (body : ∀ (p : Program) (e : Env) (s : State) (m : MethodId) (args : Array Value) (below : List Frame) (meth : Method) (c : Code) (A : Nat → Prop) (ls : Array Slot), c.exceptionTable.toList = tableOf hh → fE p s m args meth c D tys z ws own cc maxL none av w0 A ls → W p l e rm s m args below meth c s.heap [] 0 0 (MQ below (va_Qv post (fB D tys A) A) args s rm.cells rm.slots A) (F0 m 0 ls [])) : mV l D tys z y ws rm av w0 post := by
  intro sz
  refine va_MetW (cc := cc) (maxL := maxL) (ret := none) hpn hw ?_
  intro p e s m args below meth c s₁ B hml hv
  obtain ⟨ls, e1, hE⟩ := fEof own hcls hlen B hml hv
  rw [e1]
  exact body p e s m args below meth c _ ls (vx_table (x := y) B (hE.2.2.2.2.1 _ (by rw [hw]; exact List.mem_cons_self))) hE
end WV
/-! what the law asks by a number that it knows -/
def ngS (S : TS) : Nat := ow (nn S 0) (nn S 14) (nn S 8)
def stS (S : TS) : Nat := ow (nn S 0) (nn S 15) (nn S 9)
def cuS (S : TS) : Nat := ow (nn S 0) (nn S 16) (nn S 10)
/-- a fresh track -/
def newS (a : List Nat) (cd : Nat) : TS := (fun q => a.getD q 0, fun q => [cd].getD q 0, fun q => [nI 0, nI 1, nI 1, nI 1, nI 1].getD q 0, fun _ _ => 0, fun _ => 4620693217682128896)
theorem FI_new (cd : Nat) (g v ps : Nat → Int32) : FI cd 0 g v ps 0 0 0 0 := ⟨Nat.zero_le _, sAll.zero _ _ _ _, rfl, pAll.zero _ _ _ _, Iff.rfl⟩
theorem TI_new (a : List Nat) {cd : Nat} (h : cd ≤ 2) : TI (newS a cd) := ⟨h, Nat.zero_le _, Nat.zero_le _, Nat.zero_le _, B01.zero, ⟨Nat.zero_le _, B01.zero, dP_8⟩, ⟨Nat.zero_le _, B01.zero, dP_8⟩, ⟨Nat.zero_le _, B01.zero, dP_8⟩, rfl, Nat.zero_le _, Nat.zero_le _, fun _ => rfl, FI_new _ _ _ _, FI_new _ _ _ _, Nat.zero_le _, Nat.zero_le _, Nat.zero_le _, Nat.zero_le _, Nat.zero_le _⟩
def newB (a : Nat → List Nat) (cd be ta : Nat) : BS := (fun k => newS (a k) (if k = 0 then cd else 0), fun q => [be, ta, 8].getD q 0)
theorem LI_new (a : Nat → List Nat) {cd : Nat} (h : cd ≤ 2) (be ta : Nat) : LI (newB a cd be ta) 0 := by
  refine ⟨⟨fun k _ => TI_new _ ?_, by show 6 ≤ 8; omega, by show 8 ≤ 11; omega, Nat.zero_le _⟩, fun _ _ => Nat.le_refl _, Nat.le_refl _, Nat.le_refl _, Nat.le_refl _⟩
  split
  · exact h
  · omega
theorem vP_perm {D : va_G} {a b : va_W} {H : Heap} (hp : a.Perm b) (h : va_P D vwCl a H) : va_P D vwCl b H := vP_iff.mpr fun q hq => vP_iff.mp h q (hp.mem_iff.mpr hq)
theorem vD_perm {A : Nat → Prop} {a b : va_W} (hp : a.Perm b) (h : va_D A a) : va_D A b := by
  rw [vD_iff] at h ⊢
  exact ⟨(hp.map (fun q => q.1)).nodup_iff.mp h.1, fun q hq => h.2 q (hp.mem_iff.mpr hq)⟩
theorem uP_3 {T : Nat → TS} {k : Nat} {S : TS} (h : nn S 3 = nn (T k) 3) : ∀ j, j < 4 → nn (uP T k S j) 3 = nn (T j) 3 := fun j _ => by
  by_cases e : j = k
  · rw [e, uP_at, h]
  · rw [uP_ne _ _ e]
theorem LI_W {B B2 : BS} {m : Nat} (h : LI B m) (hI : BI B2) (hM : B2.2 = B.2) (h3 : ∀ j, j < 4 → nn (B2.1 j) 3 = nn (B.1 j) 3) : LI B2 m := by
  refine ⟨hI, fun j hj => ?_, ?_, ?_, ?_⟩
  · rw [h3 j hj, hM]; exact h.2.1 j hj
  · rw [hM]; exact h.2.2.1
  · rw [hM]; exact h.2.2.2.1
  · rw [hM]; exact h.2.2.2.2
theorem LI_S {B : BS} {m x : Nat} (h : LI B m) (h6 : 6 ≤ x) (h11 : x ≤ 11) : LI (B.1, uP B.2 2 x) m := ⟨BI_S h.1 h6 h11, h.2⟩
