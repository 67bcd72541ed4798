/-! The frame rule for contracts; the state of a bench as one value; its world as one list. -/
section FR
theorem Met_conseq {l : Launch} {y : MethodName} {ws : List Cond} {rm : Room} {Pc Pc' : Array Value → State → Prop} {Qc Qc' : Array Value → State → Outcome → State → Prop} {mc ms : Nat} {free free' : Addr → Prop} (h : Met l y ws rm Pc Qc mc ms free) (hp : ∀ a s, Pc' a s → Pc a s) (hq : ∀ a s o t, Pc' a s → Qc a s o t → Qc' a s o t) (hf : ∀ q, free q → free' q) : Met l y ws rm Pc' Qc' mc ms free' := by
  intro p e h1 h2 h3 s m args below h4 h5 h6 h7
  obtain ⟨n, o, a1, a2, a3, a4, L, a5, a6⟩ := h p e h1 h2 h3 s m args below h4 h5 (hp _ _ h6) h7
  exact ⟨n, o, a1, a2, a3, hq _ _ _ _ h6 a4, L, a5, fun q hq => hf _ (a6 q hq)⟩
theorem vP_iff {D : va_G} {cl : List vw_C} {ws : va_W} {H : Heap} : va_P D cl ws H ↔ ∀ q ∈ ws, va_at D cl q H :=
  ⟨fun h q hq => by
    obtain ⟨i, hi⟩ := List.getElem?_of_mem hq
    exact h i q hi, fun h k q hk => h q (List.mem_of_getElem? hk)⟩
theorem vD_iff {A : Nat → Prop} {ws : va_W} : va_D A ws ↔ (ws.map (fun q => q.1)).Nodup ∧ ∀ q ∈ ws, A q.1 := by
  constructor
  · intro h
    refine ⟨List.pairwise_iff_getElem.mpr fun i j hi hj hij e => ?_, fun q hq => ?_⟩
    · rw [List.length_map] at hi hj
      rw [List.getElem_map, List.getElem_map] at e
      have := h.1 i j _ _ (List.getElem?_eq_getElem hi) (List.getElem?_eq_getElem hj) e
      omega
    · obtain ⟨i, hi⟩ := List.getElem?_of_mem hq
      exact h.2 i q hi
  · intro h
    have hp := List.pairwise_iff_getElem.mp h.1
    refine ⟨fun i j p q hi hj e => ?_, fun k q hk => h.2 q (List.mem_of_getElem? hk)⟩
    obtain ⟨hi1, hi2⟩ := List.getElem?_eq_some_iff.mp hi
    obtain ⟨hj1, hj2⟩ := List.getElem?_eq_some_iff.mp hj
    rcases Nat.lt_trichotomy i j with hij | hij | hij
    · exact absurd (by rw [List.getElem_map, List.getElem_map, hi2, hj2]; exact e) (hp i j (by rw [List.length_map]; exact hi1) (by rw [List.length_map]; exact hj1) hij)
    · exact hij
    · exact absurd (by rw [List.getElem_map, List.getElem_map, hi2, hj2]; exact e.symm) (hp j i (by rw [List.length_map]; exact hj1) (by rw [List.length_map]; exact hi1) hij)
theorem vA_iff {ws : va_W} {sz q : Nat} : va_A ws sz q ↔ (∃ x ∈ ws, x.1 = q) ∨ sz ≤ q := by
  constructor
  · rintro (⟨k, e, h⟩ | h)
    · exact Or.inl ⟨_, List.mem_of_getElem? h, rfl⟩
    · exact Or.inr h
  · rintro (⟨x, hx, rfl⟩ | h)
    · obtain ⟨i, hi⟩ := List.getElem?_of_mem hx
      exact Or.inl ⟨i, x.2, hi⟩
    · exact Or.inr h
theorem vA_sub {ws w0 wr : va_W} {sz q : Nat} (hp : ws.Perm (w0 ++ wr)) (h : va_A w0 sz q) : va_A ws sz q := by
  rw [vA_iff] at h ⊢
  rcases h with ⟨x, hx, hq⟩ | h
  · exact Or.inl ⟨x, hp.mem_iff.mpr (List.mem_append_left _ hx), hq⟩
  · exact Or.inr h
theorem fP_sub {D : va_G} {tys : fTy} {z sz : Nat} {ws w0 wr : va_W} {U : State} (hp : ws.Perm (w0 ++ wr)) (h : fP D tys z sz ws U) : fP D tys z sz w0 U := by
  obtain ⟨h1, h2, h3, h4, h5⟩ := h
  rw [vP_iff] at h2
  rw [vD_iff] at h4
  refine ⟨h1, vP_iff.mpr fun q hq => h2 q (hp.mem_iff.mpr (List.mem_append_left _ hq)), h3, vD_iff.mpr ⟨?_, fun _ _ => trivial⟩, gS_narrow h5 fun q hq => vA_sub hp hq⟩
  have h6 := (hp.map (fun q => q.1)).nodup_iff.mp h4.1
  rw [List.map_append] at h6
  exact (List.nodup_append.mp h6).1
theorem fr_core {D : va_G} {tys : fTy} {z sz : Nat} {ws w0 wr u u' : va_W} {s t : State} (hp : ws.Perm (w0 ++ wr)) (hs : fP D tys z sz ws s) (hB : fB D tys (va_A w0 sz) u t) (hF : va_F (va_A w0 sz) s t) (hu : u'.Perm (u ++ wr)) : fB D tys (va_A ws sz) u' t ∧ va_F (va_A ws sz) s t := by
  obtain ⟨h1, h2, h3, h4, h5⟩ := hs
  rw [vP_iff] at h2
  rw [vD_iff] at h4
  have hn := (hp.map (fun q => q.1)).nodup_iff.mp h4.1
  rw [List.map_append, List.nodup_append] at hn
  have hlt : ∀ q ∈ wr, q.1 < sz := fun q hq => by rw [← h1]; exact (h2 q (hp.mem_iff.mpr (List.mem_append_right _ hq))).lt
  have hout : ∀ q ∈ wr, ¬ va_A w0 sz q.1 := fun q hq ha => by
    rw [vA_iff] at ha
    rcases ha with ⟨x, hx, e⟩ | h
    · exact hn.2.2 x.1 (List.mem_map.mpr ⟨x, hx, rfl⟩) q.1 (List.mem_map.mpr ⟨q, hq, rfl⟩) e
    · have := hlt q hq
      omega
  obtain ⟨b1, b2, b3⟩ := hB
  rw [vP_iff] at b1
  rw [vD_iff] at b3
  refine ⟨⟨vP_iff.mpr fun q hq => ?_, b2, vD_iff.mpr ⟨?_, fun q hq => ?_⟩⟩, hF.1, fun q hq ha => hF.2 q hq fun h => ha (vA_sub hp h)⟩
  · rcases List.mem_append.mp (hu.mem_iff.mp hq) with h | h
    · exact b1 q h
    · exact (h2 q (hp.mem_iff.mpr (List.mem_append_right _ h))).kept (hF.2 q.1 (by rw [h1]; exact hlt q h) (hout q h))
  · rw [(hu.map (fun q => q.1)).nodup_iff, List.map_append, List.nodup_append]
    refine ⟨b3.1, hn.2.1, fun a ha b hb e => ?_⟩
    obtain ⟨x, hx, rfl⟩ := List.mem_map.mp ha
    obtain ⟨w, hw, rfl⟩ := List.mem_map.mp hb
    exact hout w hw (e ▸ b3.2 x hx)
  · rcases List.mem_append.mp (hu.mem_iff.mp hq) with h | h
    · exact vA_sub hp (b3.2 q h)
    · exact vA_iff.mpr (Or.inl ⟨q, hp.mem_iff.mpr (List.mem_append_right _ h), rfl⟩)
variable {l : Launch} {D : va_G} {tys : fTy} {z : Nat} {y : MethodName} {cs : List Cond} {rm : Room} {av : List Value} {w0 wr ws : va_W}
theorem frI {post post' : Int32 → va_W → Prop} (h : mI l D tys z y cs rm av w0 post) (hp : ws.Perm (w0 ++ wr)) (hq : ∀ r u, post r u → ∃ u', u'.Perm (u ++ wr) ∧ post' r u') : mI l D tys z y cs rm av ws post' := fun sz =>
  Met_conseq (h sz) (fun a s hs => ⟨hs.1, fP_sub hp hs.2⟩) (fun a s o t hs ho => by
    obtain ⟨⟨r, u, h1, h2, h3⟩, h4⟩ := ho
    obtain ⟨u', h5, h6⟩ := hq r u h2
    obtain ⟨h7, h8⟩ := fr_core hp hs.2 h3 h4 h5
    exact ⟨⟨r, u', h1, h6, h7⟩, h8⟩) (fun q h => vA_sub hp h)
theorem frL {post post' : Int64 → va_W → Prop} (h : mL l D tys z y cs rm av w0 post) (hp : ws.Perm (w0 ++ wr)) (hq : ∀ r u, post r u → ∃ u', u'.Perm (u ++ wr) ∧ post' r u') : mL l D tys z y cs rm av ws post' := fun sz =>
  Met_conseq (h sz) (fun a s hs => ⟨hs.1, fP_sub hp hs.2⟩) (fun a s o t hs ho => by
    obtain ⟨⟨r, u, h1, h2, h3⟩, h4⟩ := ho
    obtain ⟨u', h5, h6⟩ := hq r u h2
    obtain ⟨h7, h8⟩ := fr_core hp hs.2 h3 h4 h5
    exact ⟨⟨r, u', h1, h6, h7⟩, h8⟩) (fun q h => vA_sub hp h)
theorem frD {post post' : UInt64 → va_W → Prop} (h : mD l D tys z y cs rm av w0 post) (hp : ws.Perm (w0 ++ wr)) (hq : ∀ r u, post r u → ∃ u', u'.Perm (u ++ wr) ∧ post' r u') : mD l D tys z y cs rm av ws post' := fun sz =>
  Met_conseq (h sz) (fun a s hs => ⟨hs.1, fP_sub hp hs.2⟩) (fun a s o t hs ho => by
    obtain ⟨⟨r, u, h1, h2, h3⟩, h4⟩ := ho
    obtain ⟨u', h5, h6⟩ := hq r u h2
    obtain ⟨h7, h8⟩ := fr_core hp hs.2 h3 h4 h5
    exact ⟨⟨r, u', h1, h6, h7⟩, h8⟩) (fun q h => vA_sub hp h)
theorem vx_conseq {Pc Pc' : Array Value → State → Prop} {Qc Qc' : Array Value → State → Outcome → State → Prop} {XC XC' : String → State → State → Prop} {mc ms : Nat} {free free' : Addr → Prop} (h : vx_Met l y cs rm Pc Qc XC mc ms free) (hp : ∀ a s, Pc' a s → Pc a s) (hq : ∀ a s o t, Pc' a s → Qc a s o t → Qc' a s o t) (hx : ∀ a E s t, Pc' a s → XC E s t → XC' E s t) (hf : ∀ q, free q → free' q) : vx_Met l y cs rm Pc' Qc' XC' mc ms free' := by
  intro p e h1 h2 h3 s m args below h4 h5 h6 h7
  obtain ⟨n, o, a1, a2, a3, a4⟩ := h p e h1 h2 h3 s m args below h4 h5 (hp _ _ h6) h7
  refine ⟨n, o, a1, a2, a3, ?_⟩
  rcases a4 with ⟨b1, L, b2, b3⟩ | ⟨q, b1, E, ce, L, b2, b3, b4, b5, b6, b7, b8⟩
  · exact Or.inl ⟨hq _ _ _ _ h6 b1, L, b2, fun q hq => hf _ (b3 q hq)⟩
  · exact Or.inr ⟨q, b1, E, ce, L, hx _ _ _ _ h6 b2, b3, b4, b5, b6, b7, fun q hq => hf _ (b8 q hq)⟩
theorem frX {post post' : Int32 → va_W → Prop} {Q : String → Prop} (h : xI l D tys z y cs rm av w0 post (fun E w => Q E ∧ w = w0)) (hp : ws.Perm (w0 ++ wr)) (hq : ∀ r u, post r u → ∃ u', u'.Perm (u ++ wr) ∧ post' r u') : xI l D tys z y cs rm av ws post' (fun E w => Q E ∧ w = ws) := fun sz =>
  vx_conseq (h sz) (fun a s hs => ⟨hs.1, fP_sub hp hs.2⟩) (fun a s o t hs ho => by
    obtain ⟨⟨r, u, h1, h2, h3⟩, h4⟩ := ho
    obtain ⟨u', h5, h6⟩ := hq r u h2
    obtain ⟨h7, h8⟩ := fr_core hp hs.2 h3 h4 h5
    exact ⟨⟨r, u', h1, h6, h7⟩, h8⟩) (fun a E s t hs ho => by
    obtain ⟨⟨E1, u⟩, ⟨h1, h2⟩, ⟨h3, h4⟩, h5⟩ := ho
    have h2 : u = w0 := h2
    subst h2
    obtain ⟨h7, h8⟩ := fr_core hp hs.2 h4 h5 hp
    exact ⟨(E1, ws), ⟨h1, rfl⟩, ⟨h3, h7⟩, h8⟩) (fun q h => vA_sub hp h)
end FR
/-- a list by places -/
theorem pm_places {ws w0 wr : va_W} (n : Nat) (is js : List Nat) (h : (is ++ js).Perm (List.range n)) (hl : ws.length = n) (h0 : is.filterMap (fun i => ws[i]?) = w0) (hr : js.filterMap (fun i => ws[i]?) = wr) : ws.Perm (w0 ++ wr) := by
  subst hl
  have h1 := h.filterMap (fun i => ws[i]?)
  rw [List.filterMap_append, h0, hr] at h1
  refine List.Perm.trans ?_ h1.symm
  have h2 : (List.range ws.length).filterMap (fun i => ws[i]?) = ws := by
    apply List.ext_getElem?
    intro i
    have key : ∀ (n : Nat), n ≤ ws.length → (List.range n).filterMap (fun i => ws[i]?) = ws.take n := by
      intro n
      induction n with
      | zero => intro _; simp
      | succ n ih =>
        intro hn
        rw [List.range_succ, List.filterMap_append, ih (by omega), List.take_add_one]
        simp [List.getElem?_eq_getElem (show n < ws.length by omega)]
    rw [key _ (Nat.le_refl _), List.take_length]
  rw [h2]
/-! the state of a track: addresses, numbers, ints, rows, periods -/
abbrev TS : Type := (Nat → Nat) × (Nat → Nat) × (Nat → Int32) × (Nat → Nat → Int32) × (Nat → UInt64)
abbrev ad (S : TS) : Nat → Nat := S.1
abbrev nn (S : TS) : Nat → Nat := S.2.1
abbrev jj (S : TS) : Nat → Int32 := S.2.2.1
abbrev rw' (S : TS) : Nat → Nat → Int32 := S.2.2.2.1
abbrev pp (S : TS) : Nat → UInt64 := S.2.2.2.2
/-- the state of a bench: its tracks; its numbers: 0 itself, 1 its row of tracks, 2 speed, 3 draw, 4 reads, 5 and 6 copies -/
abbrev BS : Type := (Nat → TS) × (Nat → Nat)
def uP {α : Type} (f : Nat → α) (k : Nat) (x : α) : Nat → α := fun j => if j = k then x else f j
theorem uP_at {α : Type} (f : Nat → α) (k : Nat) (x : α) : uP f k x k = x := if_pos rfl
theorem uP_ne {α : Type} (f : Nat → α) {k j : Nat} (x : α) (h : j ≠ k) : uP f k x j = f j := if_neg h
def bG (T : Nat → TS) : Nat → Option Nat := fun k => if k < 4 then some (ad (T k) 0) else none
theorem bG_at (T : Nat → TS) {k : Nat} (h : k < 4) : bG T k = some (ad (T k) 0) := if_pos h
theorem bG_up {T : Nat → TS} {k : Nat} {S : TS} (h : ad S 0 = ad (T k) 0) : bG (uP T k S) = bG T := by
  funext j
  unfold bG
  by_cases hj : j < 4
  · rw [if_pos hj, if_pos hj]
    by_cases e : j = k
    · rw [e, uP_at, h]
    · rw [uP_ne _ _ e]
  · rw [if_neg hj, if_neg hj]
def wH (kA : Nat → ClassId) (nt : Nat) (M : Nat → Nat) (g : Nat → Option Nat) : va_W := [(M 0, .inr (5, [.ref (M 1), .int (nI nt), .int (nI (M 2)), .int (nI (M 3)), .int (nI (M 4)), .int (nI (M 5)), .int (nI (M 6))])), (M 1, .inl (kA 2, 4, .inr (.inr (.inr (.inr g)))))]
def wT (kA : Nat → ClassId) (S : TS) : va_W := [((ad S 0), .inr (3, [.ref (ad S 1), .ref (ad S 6), .ref (ad S 8), .ref (ad S 11), .ref (ad S 14), .ref (ad S 17), .ref (ad S 20), .int (nI (nn S 0)), .int (nI (nn S 1)), .int (nI (nn S 2)), .int (nI (nn S 3)), .int (nI (nn S 4))])), ((ad S 1), .inr (2, [.ref (ad S 2), .ref (ad S 3), .ref (ad S 4), .ref (ad S 5), .int (nI (nn S 5)), .int (jj S 0)])), ((ad S 2), .inl (kA 0, 400, .inl (rw' S 0))), ((ad S 3), .inl (kA 0, 400, .inl (rw' S 1))), ((ad S 4), .inl (kA 1, 400, .inl (rw' S 2))), ((ad S 5), .inl (kA 0, 400, .inl (rw' S 3))), ((ad S 6), .inr (1, [.ref (ad S 7), .int (nI (nn S 6)), .int (jj S 1)])), ((ad S 7), .inl (kA 0, 400, .inl (rw' S 4))), ((ad S 8), .inr (0, [.int (nI 1), .ref (ad S 9), .ref (ad S 10), .int (nI (nn S 7)), .int (nI (nn S 8)), .int (nI (nn S 9)), .int (nI (nn S 10)), .int (nI (nn S 11)), .int (nI (nn S 12))])), ((ad S 9), .inl (kA 0, 72, .inl (rw' S 5))), ((ad S 10), .inl (kA 0, 8, .inl (rw' S 6))), ((ad S 11), .inr (0, [.int (nI 2), .ref (ad S 12), .ref (ad S 13), .int (nI (nn S 13)), .int (nI (nn S 14)), .int (nI (nn S 15)), .int (nI (nn S 16)), .int (nI (nn S 17)), .int (nI (nn S 18))])), ((ad S 12), .inl (kA 0, 72, .inl (rw' S 7))), ((ad S 13), .inl (kA 0, 8, .inl (rw' S 8))), ((ad S 14), .inr (4, [.ref (ad S 15), .double (pp S 0)])), ((ad S 15), .inr (1, [.ref (ad S 16), .int (nI (nn S 19)), .int (jj S 2)])), ((ad S 16), .inl (kA 0, 400, .inl (rw' S 9))), ((ad S 17), .inr (4, [.ref (ad S 18), .double (pp S 1)])), ((ad S 18), .inr (1, [.ref (ad S 19), .int (nI (nn S 20)), .int (jj S 3)])), ((ad S 19), .inl (kA 0, 400, .inl (rw' S 10))), ((ad S 20), .inr (4, [.ref (ad S 21), .double (pp S 2)])), ((ad S 21), .inr (1, [.ref (ad S 22), .int (nI (nn S 21)), .int (jj S 4)])), ((ad S 22), .inl (kA 0, 400, .inl (rw' S 11)))]
def wO (kA : Nat → ClassId) (T : Nat → TS) (k : Nat) : va_W := if k = 0 then wT kA (T 1) ++ (wT kA (T 2) ++ wT kA (T 3)) else if k = 1 then wT kA (T 0) ++ (wT kA (T 2) ++ wT kA (T 3)) else if k = 2 then wT kA (T 0) ++ (wT kA (T 1) ++ wT kA (T 3)) else wT kA (T 0) ++ (wT kA (T 1) ++ wT kA (T 2))
def wB (kA : Nat → ClassId) (B : BS) : va_W := wH kA 4 B.2 (bG B.1) ++ (wT kA (B.1 0) ++ (wT kA (B.1 1) ++ (wT kA (B.1 2) ++ wT kA (B.1 3))))
theorem wO_up (kA : Nat → ClassId) (T : Nat → TS) {k : Nat} (S : TS) (hk : k < 4) : wO kA (uP T k S) k = wO kA T k := by
  rcases (show k = 0 ∨ k = 1 ∨ k = 2 ∨ k = 3 by omega) with rfl | rfl | rfl | rfl <;> rfl
theorem pk3 {a b c : va_W} : (a ++ (b ++ c)).Perm (b ++ (a ++ c)) := by
  rw [← List.append_assoc, ← List.append_assoc]
  exact List.perm_append_comm.append_right _
theorem wB_pk (kA : Nat → ClassId) (B : BS) {k : Nat} (hk : k < 4) : (wB kA B).Perm ((wH kA 4 B.2 (bG B.1) ++ wT kA (B.1 k)) ++ wO kA B.1 k) := by
  rw [List.append_assoc]
  refine List.Perm.append_left _ ?_
  rcases (show k = 0 ∨ k = 1 ∨ k = 2 ∨ k = 3 by omega) with rfl | rfl | rfl | rfl
  · exact List.Perm.refl _
  · exact pk3
  · exact (List.Perm.append_left _ pk3).trans pk3
  · exact (List.Perm.append_left _ ((List.Perm.append_left _ List.perm_append_comm).trans pk3)).trans pk3
theorem pkA {kA : Nat → ClassId} {B : BS} {k : Nat} {w0 wr : va_W} (hk : k < 4) (h : (wH kA 4 B.2 (bG B.1) ++ wT kA (B.1 k)).Perm (w0 ++ wr)) : (wB kA B).Perm (w0 ++ (wr ++ wO kA B.1 k)) := by
  rw [← List.append_assoc]
  exact (wB_pk kA B hk).trans (h.append_right _)
theorem pkB {kA : Nat → ClassId} {B : BS} {k : Nat} {S : TS} {M : Nat → Nat} {u wr : va_W} (hk : k < 4) (ha : ad S 0 = ad (B.1 k) 0) (h : (wH kA 4 M (bG B.1) ++ wT kA S).Perm (u ++ wr)) : (wB kA (uP B.1 k S, M)).Perm (u ++ (wr ++ wO kA B.1 k)) := by
  have h1 := wB_pk kA (uP B.1 k S, M) hk
  rw [show bG (uP B.1 k S, M).1 = bG B.1 from bG_up ha, show (uP B.1 k S, M).1 k = S from uP_at _ _ _, show wO kA (uP B.1 k S, M).1 k = wO kA B.1 k from wO_up _ _ _ hk] at h1
  rw [← List.append_assoc]
  exact h1.trans (h.append_right _)
theorem pmB {kA : Nat → ClassId} {T : Nat → TS} {k : Nat} {S : TS} {M : Nat → Nat} {X : va_W} (ha : ad S 0 = ad (T k) 0) (h : (wH kA 4 M (bG T) ++ (wT kA (uP T k S 0) ++ (wT kA (uP T k S 1) ++ (wT kA (uP T k S 2) ++ wT kA (uP T k S 3))))).Perm X) : (wB kA (uP T k S, M)).Perm X := by
  show (wH kA 4 M (bG (uP T k S)) ++ (wT kA (uP T k S 0) ++ (wT kA (uP T k S 1) ++ (wT kA (uP T k S 2) ++ wT kA (uP T k S 3))))).Perm X
  rw [bG_up ha]
  exact h
/-- how long the turns are, the oldest first -/
def lenF (S : TS) : Nat → Nat := fun q => tuS (nn S 19) (nn S 20) (nn S 21) ((nn S 4 + q) % 3)
/-- what holds of every track at any time -/
def TI (S : TS) : Prop := nn S 0 ≤ 2 ∧ nn S 1 ≤ 3 ∧ nn S 4 ≤ 2 ∧ nn S 5 ≤ 400 ∧ B01 (rw' S 4) ∧ (nn S 19 ≤ 400 ∧ B01 (rw' S 9) ∧ dP (pp S 0)) ∧ (nn S 20 ≤ 400 ∧ B01 (rw' S 10) ∧ dP (pp S 1)) ∧ (nn S 21 ≤ 400 ∧ B01 (rw' S 11) ∧ dP (pp S 2)) ∧
  nn S 6 = mnS (if nn S 1 = 0 then 0 else 400) (lenF S) (nn S 1) ∧ mxS (lenF S) (nn S 1) ≤ nn S 2 + nn S 6 ∧ nn S 2 ≤ mxS (lenF S) (nn S 1) ∧ (nn S 1 < 2 → nn S 2 = 0) ∧
  FI 1 (nn S 6) (rw' S 4) (rw' S 5) (rw' S 6) (nn S 7) (nn S 8) (nn S 11) (nn S 12) ∧ FI 2 (nn S 6) (rw' S 4) (rw' S 7) (rw' S 8) (nn S 13) (nn S 14) (nn S 17) (nn S 18) ∧ nn S 10 ≤ 1 ∧ nn S 16 ≤ 1 ∧ nn S 9 ≤ 400 ∧ nn S 15 ≤ 400 ∧ nn S 1 ≤ nn S 3
theorem TI.len4 {S : TS} (h : TI S) : ∀ q, lenF S q ≤ 400 := fun q => tuS_le h.2.2.2.2.2.1.1 h.2.2.2.2.2.2.1.1 h.2.2.2.2.2.2.2.1.1 _
theorem TI.vl4 {S : TS} (h : TI S) : nn S 6 ≤ 400 := by
  rw [h.2.2.2.2.2.2.2.2.1]
  refine Nat.le_trans (mnS_le0 _ _ _) ?_
  split <;> omega
theorem TI.un4 {S : TS} (h : TI S) : nn S 2 ≤ 400 := Nat.le_trans h.2.2.2.2.2.2.2.2.2.2.1 (mxS_le h.len4 _)
/-- a bench that is in order -/
def BI (B : BS) : Prop := (∀ k, k < 4 → TI (B.1 k)) ∧ 6 ≤ B.2 2 ∧ B.2 2 ≤ 11 ∧ B.2 3 ≤ 15
/-! what is asked of a track, by its state -/
noncomputable def gdS (S : TS) : Nat := ow (nn S 0) (gdv (nn S 14) (nn S 13) (twN (rw' S 7) (nn S 13)) (nn S 2) (nn S 15) (nn S 16) (nn S 6)) (gdv (nn S 8) (nn S 7) (twN (rw' S 5) (nn S 7)) (nn S 2) (nn S 9) (nn S 10) (nn S 6))
noncomputable def oTS (S : TS) (wh : Nat) : Int32 := oT (nn S 0) (nn S 5) (nn S 1) (nn S 6) (nn S 2) (nn S 3) (ow (nn S 0) (nn S 13) (nn S 7)) (ow (nn S 0) (nn S 14) (nn S 8)) (ow (nn S 0) (nn S 15) (nn S 9)) (ow (nn S 0) (nn S 16) (nn S 10)) (gdS S) (sumW (rw' S 1) (nn S 5)) wh
def oSe (S : TS) (s9 wh : Nat) : Int32 := ow (nn S 0) (rw' S 7) (rw' S 5) (s9 * 9 + wh)
def nsS (S : TS) : Nat := ow (nn S 0) (nn S 13) (nn S 7)
def plS (S : TS) : Nat := ow (nn S 0) (nn S 18) (nn S 12)
noncomputable def dgT (S : TS) (d9 : Int64) : Int64 := foldR (ow (nn S 0) (rw' S 7) (rw' S 5)) (nsS S) (foldD (fun q => nI (ow q (nn S 14) (nn S 8))) 3 ((foldD2 (fun q => tuS (jj S 2) (jj S 3) (jj S 4) ((nn S 4 + q) % 3)) (fun q => nI (tuS (nn S 19) (nn S 20) (nn S 21) ((nn S 4 + q) % 3))) (nn S 1) (foldD (fun q => oTS S q) 12 d9) * 31 + (nI (plS S)).toInt64) * 31 + (wl (gdS S) (plS S)).toInt64))
def shS (S : TS) : Nat := cntT (rw' S 3) 2 (nn S 5)
def shB (B : BS) : Nat := 0 + shS (B.1 0) + shS (B.1 1) + shS (B.1 2) + shS (B.1 3)
/-- a track behind a writing: n2 cells, the new ones w wide, steady and clean -/
def wrS (S S2 : TS) (n2 w : Nat) : Prop := TI S2 ∧ (∀ i, i ≠ 5 → nn S2 i = nn S i) ∧ nn S2 5 = n2 ∧ xE (nn S 5) n2 (nI w) (rw' S 1) (rw' S2 1) (rw' S 2) (rw' S2 2) (rw' S 3) (rw' S2 3)
theorem TI_surf {S : TS} (h : TI S) {n2 : Nat} (hn : n2 ≤ 400) (J : Nat → Int32) (a b c d : Nat → Int32) : TI (S.1, uP S.2.1 5 n2, J, uP (uP (uP (uP S.2.2.2.1 0 a) 1 b) 2 c) 3 d, S.2.2.2.2) := ⟨h.1, h.2.1, h.2.2.1, hn, h.2.2.2.2⟩
theorem TI_row {S : TS} (h : TI S) (i : Nat) (hi : i < 4) (f : Nat → Int32) : TI (S.1, S.2.1, S.2.2.1, uP S.2.2.2.1 i f, S.2.2.2.2) := by
  rcases (show i = 0 ∨ i = 1 ∨ i = 2 ∨ i = 3 by omega) with rfl | rfl | rfl | rfl <;> exact h
def wkS (S S2 : TS) (i b : Nat) : Prop := TI S2 ∧ nn S2 = nn S ∧ rw' S2 2 = upd (rw' S 2) i (nI b) ∧ rw' S2 3 = rw' S 3
def diS (S S2 : TS) (p0 p1 : Nat) : Prop := TI S2 ∧ nn S2 = nn S ∧ ∀ j, rw' S2 3 j = soF p0 (p1 + 1) (rw' S 3) j
def clS (S S2 : TS) : Prop := TI S2 ∧ nn S2 = nn S ∧ ∀ j, rw' S2 3 j = wiF (nn S 5) (rw' S 3) j
def rdS (S S2 : TS) : Prop := TI S2 ∧ nn S2 0 = nn S 0 ∧ nn S2 5 = nn S 5 ∧ nn S2 3 = nn S 3 + 1 ∧ nn S2 1 = min (nn S 1 + 1) 3 ∧ ∀ j, rw' S 3 j = nI 3 → rw' S2 3 j = nI 3
def cpS (S S2 : TS) (n2 : Nat) : Prop := TI S2 ∧ nn S2 0 = nn S 0 ∧ nn S2 1 = 0 ∧ nn S2 5 = n2 ∧ ∀ j, j < n2 → rw' S2 1 j = nI 8 ∧ rw' S2 3 j = nI 0
