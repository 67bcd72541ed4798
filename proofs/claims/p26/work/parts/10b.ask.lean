abbrev wq_X6_ofCell_B : List Cond := wq_X6_ofCell
theorem gd_X6_ofCell_B : wq_X6_ofCell_B.all goodWord = true := gd_X6_ofCell
set_option maxHeartbeats 4000000 in
set_option maxRecDepth 100000 in
theorem c_X6_ofCell_B (l : Launch) (D : va_G) (kA : Nat → ClassId) (z : Nat) (B : BS) (be k : Nat) (i wh : Nat) (hbe : B.2 0 = be) (hI : BI B) (hk : k < 4) (hi : i < nn (B.1 k) 5) (hwh : wh ≤ 3) : mI l D (tyL kA) z yX6_ofCell wq_X6_ofCell_B ({ frames := 3, cells := 0, slots := 0, locals := 65 }) [.ref be, .int (nI k), .int (nI i), .int (nI wh)] (wB kA B) (fun r w => w = (wB kA B) ∧ (r = oC (rw' (B.1 k) 0) (rw' (B.1 k) 1) (rw' (B.1 k) 2) (rw' (B.1 k) 3) i wh)) := by
  subst hbe
  have iT := hI.1 k hk
  obtain ⟨i0, i1, i4, i5, iv, ⟨ia0, ia1, ia2⟩, ⟨ib0, ib1, ib2⟩, ⟨ic0, ic1, ic2⟩, i6, ix, iy, iw, iP, iG, i10, i16, i9, i15, i3⟩ := id iT
  have iV := iT.vl4
  have iU := iT.un4
  have in7 := iP.1
  have in13 := iG.1
  have in8 : nn (B.1 k) 8 ≤ 8 := by rw [iP.2.2.1]; exact Nat.le_trans (cntG_le _ _) in7
  have in14 : nn (B.1 k) 14 ≤ 8 := by rw [iG.2.2.1]; exact Nat.le_trans (cntG_le _ _) in13
  have il12 := iP.2.2.2.1.2.1
  have il18 := iG.2.2.2.1.2.1
  have hp : (wB kA B).Perm ([((B.2 0), .inr (5, [.ref (B.2 1), .int (nI 4), .int (nI (B.2 2)), .int (nI (B.2 3)), .int (nI (B.2 4)), .int (nI (B.2 5)), .int (nI (B.2 6))])), ((B.2 1), .inl (kA 2, 4, .inr (.inr (.inr (.inr (bG B.1)))))), ((ad (B.1 k) 0), .inr (3, [.ref (ad (B.1 k) 1), .ref (ad (B.1 k) 6), .ref (ad (B.1 k) 8), .ref (ad (B.1 k) 11), .ref (ad (B.1 k) 14), .ref (ad (B.1 k) 17), .ref (ad (B.1 k) 20), .int (nI (nn (B.1 k) 0)), .int (nI (nn (B.1 k) 1)), .int (nI (nn (B.1 k) 2)), .int (nI (nn (B.1 k) 3)), .int (nI (nn (B.1 k) 4))])), ((ad (B.1 k) 1), .inr (2, [.ref (ad (B.1 k) 2), .ref (ad (B.1 k) 3), .ref (ad (B.1 k) 4), .ref (ad (B.1 k) 5), .int (nI (nn (B.1 k) 5)), .int (jj (B.1 k) 0)])), ((ad (B.1 k) 2), .inl (kA 0, 400, .inl (rw' (B.1 k) 0))), ((ad (B.1 k) 3), .inl (kA 0, 400, .inl (rw' (B.1 k) 1))), ((ad (B.1 k) 4), .inl (kA 1, 400, .inl (rw' (B.1 k) 2))), ((ad (B.1 k) 5), .inl (kA 0, 400, .inl (rw' (B.1 k) 3)))] ++ _) := pkA hk (pm_places 25 [0, 1, 2, 3, 4, 5, 6, 7] [8, 9, 10, 11, 12, 13, 14, 15, 16, 17, 18, 19, 20, 21, 22, 23, 24] (by decide +kernel) rfl rfl rfl)
  refine frI (c_X6_ofCell l D kA z (B.2 0) (B.2 1) 4 (B.2 2) (B.2 3) (B.2 4) (B.2 5) (B.2 6) k (bG B.1) (ad (B.1 k) 0) (ad (B.1 k) 1) (ad (B.1 k) 6) (ad (B.1 k) 8) (ad (B.1 k) 11) (ad (B.1 k) 14) (ad (B.1 k) 17) (ad (B.1 k) 20) (nn (B.1 k) 0) (nn (B.1 k) 1) (nn (B.1 k) 2) (nn (B.1 k) 3) (nn (B.1 k) 4) (ad (B.1 k) 2) (ad (B.1 k) 3) (ad (B.1 k) 4) (ad (B.1 k) 5) (nn (B.1 k) 5) (jj (B.1 k) 0) (rw' (B.1 k) 0) (rw' (B.1 k) 1) (rw' (B.1 k) 2) (rw' (B.1 k) 3) i wh hk (bG_at B.1 hk) (by first | assumption | omega) (by first | assumption | omega) (by first | assumption | omega)) hp ?_
  intro r u hu
  obtain ⟨rfl, f_e⟩ := hu
  exact ⟨_, hp, rfl, f_e⟩
abbrev wq_X6_ofTrack_B : List Cond := wq_X6_ofTrack
theorem gd_X6_ofTrack_B : wq_X6_ofTrack_B.all goodWord = true := gd_X6_ofTrack
set_option maxHeartbeats 4000000 in
set_option maxRecDepth 100000 in
theorem c_X6_ofTrack_B (l : Launch) (D : va_G) (kA : Nat → ClassId) (z : Nat) (B : BS) (be k : Nat) (wh : Nat) (hbe : B.2 0 = be) (hI : BI B) (hk : k < 4) (hwh : wh ≤ 11) : mI l D (tyL kA) z yX6_ofTrack wq_X6_ofTrack_B ({ frames := 3, cells := 0, slots := 0, locals := 67 }) [.ref be, .int (nI k), .int (nI wh)] (wB kA B) (fun r w => w = (wB kA B) ∧ (r = oTS (B.1 k) wh)) := by
  subst hbe
  have iT := hI.1 k hk
  obtain ⟨i0, i1, i4, i5, iv, ⟨ia0, ia1, ia2⟩, ⟨ib0, ib1, ib2⟩, ⟨ic0, ic1, ic2⟩, i6, ix, iy, iw, iP, iG, i10, i16, i9, i15, i3⟩ := id iT
  have iV := iT.vl4
  have iU := iT.un4
  have in7 := iP.1
  have in13 := iG.1
  have in8 : nn (B.1 k) 8 ≤ 8 := by rw [iP.2.2.1]; exact Nat.le_trans (cntG_le _ _) in7
  have in14 : nn (B.1 k) 14 ≤ 8 := by rw [iG.2.2.1]; exact Nat.le_trans (cntG_le _ _) in13
  have il12 := iP.2.2.2.1.2.1
  have il18 := iG.2.2.2.1.2.1
  have hp : (wB kA B).Perm ([((B.2 0), .inr (5, [.ref (B.2 1), .int (nI 4), .int (nI (B.2 2)), .int (nI (B.2 3)), .int (nI (B.2 4)), .int (nI (B.2 5)), .int (nI (B.2 6))])), ((B.2 1), .inl (kA 2, 4, .inr (.inr (.inr (.inr (bG B.1)))))), ((ad (B.1 k) 0), .inr (3, [.ref (ad (B.1 k) 1), .ref (ad (B.1 k) 6), .ref (ad (B.1 k) 8), .ref (ad (B.1 k) 11), .ref (ad (B.1 k) 14), .ref (ad (B.1 k) 17), .ref (ad (B.1 k) 20), .int (nI (nn (B.1 k) 0)), .int (nI (nn (B.1 k) 1)), .int (nI (nn (B.1 k) 2)), .int (nI (nn (B.1 k) 3)), .int (nI (nn (B.1 k) 4))])), ((ad (B.1 k) 1), .inr (2, [.ref (ad (B.1 k) 2), .ref (ad (B.1 k) 3), .ref (ad (B.1 k) 4), .ref (ad (B.1 k) 5), .int (nI (nn (B.1 k) 5)), .int (jj (B.1 k) 0)])), ((ad (B.1 k) 3), .inl (kA 0, 400, .inl (rw' (B.1 k) 1))), ((ad (B.1 k) 6), .inr (1, [.ref (ad (B.1 k) 7), .int (nI (nn (B.1 k) 6)), .int (jj (B.1 k) 1)])), ((ad (B.1 k) 8), .inr (0, [.int (nI 1), .ref (ad (B.1 k) 9), .ref (ad (B.1 k) 10), .int (nI (nn (B.1 k) 7)), .int (nI (nn (B.1 k) 8)), .int (nI (nn (B.1 k) 9)), .int (nI (nn (B.1 k) 10)), .int (nI (nn (B.1 k) 11)), .int (nI (nn (B.1 k) 12))])), ((ad (B.1 k) 9), .inl (kA 0, 72, .inl (rw' (B.1 k) 5))), ((ad (B.1 k) 11), .inr (0, [.int (nI 2), .ref (ad (B.1 k) 12), .ref (ad (B.1 k) 13), .int (nI (nn (B.1 k) 13)), .int (nI (nn (B.1 k) 14)), .int (nI (nn (B.1 k) 15)), .int (nI (nn (B.1 k) 16)), .int (nI (nn (B.1 k) 17)), .int (nI (nn (B.1 k) 18))])), ((ad (B.1 k) 12), .inl (kA 0, 72, .inl (rw' (B.1 k) 7)))] ++ _) := pkA hk (pm_places 25 [0, 1, 2, 3, 5, 8, 10, 11, 13, 14] [4, 6, 7, 9, 12, 15, 16, 17, 18, 19, 20, 21, 22, 23, 24] (by decide +kernel) rfl rfl rfl)
  refine frI (c_X6_ofTrack l D kA z (B.2 0) (B.2 1) 4 (B.2 2) (B.2 3) (B.2 4) (B.2 5) (B.2 6) k (bG B.1) (ad (B.1 k) 0) (ad (B.1 k) 1) (ad (B.1 k) 6) (ad (B.1 k) 8) (ad (B.1 k) 11) (ad (B.1 k) 14) (ad (B.1 k) 17) (ad (B.1 k) 20) (nn (B.1 k) 0) (nn (B.1 k) 1) (nn (B.1 k) 2) (nn (B.1 k) 3) (nn (B.1 k) 4) (ad (B.1 k) 2) (ad (B.1 k) 3) (ad (B.1 k) 4) (ad (B.1 k) 5) (nn (B.1 k) 5) (jj (B.1 k) 0) (rw' (B.1 k) 1) (nn (B.1 k) 6) (ad (B.1 k) 7) (ad (B.1 k) 9) (ad (B.1 k) 10) (ad (B.1 k) 12) (ad (B.1 k) 13) (jj (B.1 k) 1) (nn (B.1 k) 7) (nn (B.1 k) 8) (nn (B.1 k) 9) (nn (B.1 k) 10) (nn (B.1 k) 11) (nn (B.1 k) 12) (nn (B.1 k) 13) (nn (B.1 k) 14) (nn (B.1 k) 15) (nn (B.1 k) 16) (nn (B.1 k) 17) (nn (B.1 k) 18) (rw' (B.1 k) 5) (rw' (B.1 k) 7) wh hk (bG_at B.1 hk) (by first | assumption | omega) (by first | assumption | omega) (by first | assumption | omega) (by first | assumption | omega) (by first | assumption | omega) (by first | assumption | omega) (by first | assumption | omega) (by first | assumption | omega) (by first | assumption | omega) (by first | assumption | omega) (by first | assumption | omega) (by first | assumption | omega) (by first | assumption | omega)) hp ?_
  intro r u hu
  obtain ⟨rfl, f_e⟩ := hu
  exact ⟨_, hp, rfl, f_e⟩
abbrev wq_X6_vote_B : List Cond := wq_X6_vote
theorem gd_X6_vote_B : wq_X6_vote_B.all goodWord = true := gd_X6_vote
set_option maxHeartbeats 4000000 in
set_option maxRecDepth 100000 in
theorem c_X6_vote_B (l : Launch) (D : va_G) (kA : Nat → ClassId) (z : Nat) (B : BS) (be k : Nat) (i : Nat) (hbe : B.2 0 = be) (hI : BI B) (hk : k < 4) (hi : i < nn (B.1 k) 6) : mI l D (tyL kA) z yX6_vote wq_X6_vote_B ({ frames := 1, cells := 0, slots := 0, locals := 22 }) [.ref be, .int (nI k), .int (nI i)] (wB kA B) (fun r w => w = (wB kA B) ∧ (r = rw' (B.1 k) 4 i)) := by
  subst hbe
  have iT := hI.1 k hk
  obtain ⟨i0, i1, i4, i5, iv, ⟨ia0, ia1, ia2⟩, ⟨ib0, ib1, ib2⟩, ⟨ic0, ic1, ic2⟩, i6, ix, iy, iw, iP, iG, i10, i16, i9, i15, i3⟩ := id iT
  have iV := iT.vl4
  have iU := iT.un4
  have in7 := iP.1
  have in13 := iG.1
  have in8 : nn (B.1 k) 8 ≤ 8 := by rw [iP.2.2.1]; exact Nat.le_trans (cntG_le _ _) in7
  have in14 : nn (B.1 k) 14 ≤ 8 := by rw [iG.2.2.1]; exact Nat.le_trans (cntG_le _ _) in13
  have il12 := iP.2.2.2.1.2.1
  have il18 := iG.2.2.2.1.2.1
  have hp : (wB kA B).Perm ([((B.2 0), .inr (5, [.ref (B.2 1), .int (nI 4), .int (nI (B.2 2)), .int (nI (B.2 3)), .int (nI (B.2 4)), .int (nI (B.2 5)), .int (nI (B.2 6))])), ((B.2 1), .inl (kA 2, 4, .inr (.inr (.inr (.inr (bG B.1)))))), ((ad (B.1 k) 0), .inr (3, [.ref (ad (B.1 k) 1), .ref (ad (B.1 k) 6), .ref (ad (B.1 k) 8), .ref (ad (B.1 k) 11), .ref (ad (B.1 k) 14), .ref (ad (B.1 k) 17), .ref (ad (B.1 k) 20), .int (nI (nn (B.1 k) 0)), .int (nI (nn (B.1 k) 1)), .int (nI (nn (B.1 k) 2)), .int (nI (nn (B.1 k) 3)), .int (nI (nn (B.1 k) 4))])), ((ad (B.1 k) 6), .inr (1, [.ref (ad (B.1 k) 7), .int (nI (nn (B.1 k) 6)), .int (jj (B.1 k) 1)])), ((ad (B.1 k) 7), .inl (kA 0, 400, .inl (rw' (B.1 k) 4)))] ++ _) := pkA hk (pm_places 25 [0, 1, 2, 8, 9] [3, 4, 5, 6, 7, 10, 11, 12, 13, 14, 15, 16, 17, 18, 19, 20, 21, 22, 23, 24] (by decide +kernel) rfl rfl rfl)
  refine frI (c_X6_vote l D kA z (B.2 0) (B.2 1) 4 (B.2 2) (B.2 3) (B.2 4) (B.2 5) (B.2 6) k (bG B.1) (ad (B.1 k) 0) (ad (B.1 k) 1) (ad (B.1 k) 6) (ad (B.1 k) 8) (ad (B.1 k) 11) (ad (B.1 k) 14) (ad (B.1 k) 17) (ad (B.1 k) 20) (nn (B.1 k) 0) (nn (B.1 k) 1) (nn (B.1 k) 2) (nn (B.1 k) 3) (nn (B.1 k) 4) (ad (B.1 k) 7) (nn (B.1 k) 6) i (jj (B.1 k) 1) (rw' (B.1 k) 4) hk (bG_at B.1 hk) (by first | assumption | omega) (by first | assumption | omega) (by first | assumption | omega)) hp ?_
  intro r u hu
  obtain ⟨rfl, f_e⟩ := hu
  exact ⟨_, hp, rfl, f_e⟩
abbrev wq_X6_turn_lB : List Cond := wq_X6_turn_l
theorem gd_X6_turn_lB : wq_X6_turn_lB.all goodWord = true := gd_X6_turn_l
set_option maxHeartbeats 4000000 in
set_option maxRecDepth 100000 in
theorem c_X6_turn_lB (l : Launch) (D : va_G) (kA : Nat → ClassId) (z : Nat) (B : BS) (be k : Nat) (ag : Nat) (hbe : B.2 0 = be) (hI : BI B) (hk : k < 4) (hag : ag < nn (B.1 k) 1) : mI l D (tyL kA) z yX6_turn wq_X6_turn_lB ({ frames := 3, cells := 0, slots := 0, locals := 66 }) [.ref be, .int (nI k), .int (nI ag), .int (nI 0)] (wB kA B) (fun r w => w = (wB kA B) ∧ (r = nI (lenF (B.1 k) ag))) := by
  subst hbe
  have iT := hI.1 k hk
  obtain ⟨i0, i1, i4, i5, iv, ⟨ia0, ia1, ia2⟩, ⟨ib0, ib1, ib2⟩, ⟨ic0, ic1, ic2⟩, i6, ix, iy, iw, iP, iG, i10, i16, i9, i15, i3⟩ := id iT
  have iV := iT.vl4
  have iU := iT.un4
  have in7 := iP.1
  have in13 := iG.1
  have in8 : nn (B.1 k) 8 ≤ 8 := by rw [iP.2.2.1]; exact Nat.le_trans (cntG_le _ _) in7
  have in14 : nn (B.1 k) 14 ≤ 8 := by rw [iG.2.2.1]; exact Nat.le_trans (cntG_le _ _) in13
  have il12 := iP.2.2.2.1.2.1
  have il18 := iG.2.2.2.1.2.1
  have hp : (wB kA B).Perm ([((B.2 0), .inr (5, [.ref (B.2 1), .int (nI 4), .int (nI (B.2 2)), .int (nI (B.2 3)), .int (nI (B.2 4)), .int (nI (B.2 5)), .int (nI (B.2 6))])), ((B.2 1), .inl (kA 2, 4, .inr (.inr (.inr (.inr (bG B.1)))))), ((ad (B.1 k) 0), .inr (3, [.ref (ad (B.1 k) 1), .ref (ad (B.1 k) 6), .ref (ad (B.1 k) 8), .ref (ad (B.1 k) 11), .ref (ad (B.1 k) 14), .ref (ad (B.1 k) 17), .ref (ad (B.1 k) 20), .int (nI (nn (B.1 k) 0)), .int (nI (nn (B.1 k) 1)), .int (nI (nn (B.1 k) 2)), .int (nI (nn (B.1 k) 3)), .int (nI (nn (B.1 k) 4))])), ((ad (B.1 k) 14), .inr (4, [.ref (ad (B.1 k) 15), .double (pp (B.1 k) 0)])), ((ad (B.1 k) 15), .inr (1, [.ref (ad (B.1 k) 16), .int (nI (nn (B.1 k) 19)), .int (jj (B.1 k) 2)])), ((ad (B.1 k) 16), .inl (kA 0, 400, .inl (rw' (B.1 k) 9))), ((ad (B.1 k) 17), .inr (4, [.ref (ad (B.1 k) 18), .double (pp (B.1 k) 1)])), ((ad (B.1 k) 18), .inr (1, [.ref (ad (B.1 k) 19), .int (nI (nn (B.1 k) 20)), .int (jj (B.1 k) 3)])), ((ad (B.1 k) 19), .inl (kA 0, 400, .inl (rw' (B.1 k) 10))), ((ad (B.1 k) 20), .inr (4, [.ref (ad (B.1 k) 21), .double (pp (B.1 k) 2)])), ((ad (B.1 k) 21), .inr (1, [.ref (ad (B.1 k) 22), .int (nI (nn (B.1 k) 21)), .int (jj (B.1 k) 4)])), ((ad (B.1 k) 22), .inl (kA 0, 400, .inl (rw' (B.1 k) 11)))] ++ _) := pkA hk (pm_places 25 [0, 1, 2, 16, 17, 18, 19, 20, 21, 22, 23, 24] [3, 4, 5, 6, 7, 8, 9, 10, 11, 12, 13, 14, 15] (by decide +kernel) rfl rfl rfl)
  refine frI (c_X6_turn_l l D kA z (B.2 0) (B.2 1) 4 (B.2 2) (B.2 3) (B.2 4) (B.2 5) (B.2 6) k (bG B.1) (ad (B.1 k) 0) (ad (B.1 k) 1) (ad (B.1 k) 6) (ad (B.1 k) 8) (ad (B.1 k) 11) (ad (B.1 k) 14) (ad (B.1 k) 17) (ad (B.1 k) 20) (nn (B.1 k) 0) (nn (B.1 k) 1) (nn (B.1 k) 2) (nn (B.1 k) 3) (nn (B.1 k) 4) (ad (B.1 k) 15) (ad (B.1 k) 18) (ad (B.1 k) 21) (ad (B.1 k) 16) (ad (B.1 k) 19) (ad (B.1 k) 22) (nn (B.1 k) 19) (nn (B.1 k) 20) (nn (B.1 k) 21) (jj (B.1 k) 2) (jj (B.1 k) 3) (jj (B.1 k) 4) (rw' (B.1 k) 9) (rw' (B.1 k) 10) (rw' (B.1 k) 11) (pp (B.1 k) 0) (pp (B.1 k) 1) (pp (B.1 k) 2) ag hk (bG_at B.1 hk) (by first | assumption | omega) (by first | assumption | omega) (by first | assumption | omega)) hp ?_
  intro r u hu
  obtain ⟨rfl, f_e⟩ := hu
  exact ⟨_, hp, rfl, f_e⟩
abbrev wq_X6_period_B : List Cond := wq_X6_period
theorem gd_X6_period_B : wq_X6_period_B.all goodWord = true := gd_X6_period
set_option maxHeartbeats 4000000 in
set_option maxRecDepth 100000 in
theorem c_X6_period_B (l : Launch) (D : va_G) (kA : Nat → ClassId) (z : Nat) (B : BS) (be k : Nat) (ag : Nat) (hbe : B.2 0 = be) (hI : BI B) (hk : k < 4) (hag : ag < nn (B.1 k) 1) : mD l D (tyL kA) z yX6_period wq_X6_period_B ({ frames := 3, cells := 0, slots := 0, locals := 66 }) [.ref be, .int (nI k), .int (nI ag)] (wB kA B) (fun r w => w = (wB kA B) ∧ (dP r)) := by
  subst hbe
  have iT := hI.1 k hk
  obtain ⟨i0, i1, i4, i5, iv, ⟨ia0, ia1, ia2⟩, ⟨ib0, ib1, ib2⟩, ⟨ic0, ic1, ic2⟩, i6, ix, iy, iw, iP, iG, i10, i16, i9, i15, i3⟩ := id iT
  have iV := iT.vl4
  have iU := iT.un4
  have in7 := iP.1
  have in13 := iG.1
  have in8 : nn (B.1 k) 8 ≤ 8 := by rw [iP.2.2.1]; exact Nat.le_trans (cntG_le _ _) in7
  have in14 : nn (B.1 k) 14 ≤ 8 := by rw [iG.2.2.1]; exact Nat.le_trans (cntG_le _ _) in13
  have il12 := iP.2.2.2.1.2.1
  have il18 := iG.2.2.2.1.2.1
  have hp : (wB kA B).Perm ([((B.2 0), .inr (5, [.ref (B.2 1), .int (nI 4), .int (nI (B.2 2)), .int (nI (B.2 3)), .int (nI (B.2 4)), .int (nI (B.2 5)), .int (nI (B.2 6))])), ((B.2 1), .inl (kA 2, 4, .inr (.inr (.inr (.inr (bG B.1)))))), ((ad (B.1 k) 0), .inr (3, [.ref (ad (B.1 k) 1), .ref (ad (B.1 k) 6), .ref (ad (B.1 k) 8), .ref (ad (B.1 k) 11), .ref (ad (B.1 k) 14), .ref (ad (B.1 k) 17), .ref (ad (B.1 k) 20), .int (nI (nn (B.1 k) 0)), .int (nI (nn (B.1 k) 1)), .int (nI (nn (B.1 k) 2)), .int (nI (nn (B.1 k) 3)), .int (nI (nn (B.1 k) 4))])), ((ad (B.1 k) 14), .inr (4, [.ref (ad (B.1 k) 15), .double (pp (B.1 k) 0)])), ((ad (B.1 k) 15), .inr (1, [.ref (ad (B.1 k) 16), .int (nI (nn (B.1 k) 19)), .int (jj (B.1 k) 2)])), ((ad (B.1 k) 16), .inl (kA 0, 400, .inl (rw' (B.1 k) 9))), ((ad (B.1 k) 17), .inr (4, [.ref (ad (B.1 k) 18), .double (pp (B.1 k) 1)])), ((ad (B.1 k) 18), .inr (1, [.ref (ad (B.1 k) 19), .int (nI (nn (B.1 k) 20)), .int (jj (B.1 k) 3)])), ((ad (B.1 k) 19), .inl (kA 0, 400, .inl (rw' (B.1 k) 10))), ((ad (B.1 k) 20), .inr (4, [.ref (ad (B.1 k) 21), .double (pp (B.1 k) 2)])), ((ad (B.1 k) 21), .inr (1, [.ref (ad (B.1 k) 22), .int (nI (nn (B.1 k) 21)), .int (jj (B.1 k) 4)])), ((ad (B.1 k) 22), .inl (kA 0, 400, .inl (rw' (B.1 k) 11)))] ++ _) := pkA hk (pm_places 25 [0, 1, 2, 16, 17, 18, 19, 20, 21, 22, 23, 24] [3, 4, 5, 6, 7, 8, 9, 10, 11, 12, 13, 14, 15] (by decide +kernel) rfl rfl rfl)
  refine frD (c_X6_period l D kA z (B.2 0) (B.2 1) 4 (B.2 2) (B.2 3) (B.2 4) (B.2 5) (B.2 6) k (bG B.1) (ad (B.1 k) 0) (ad (B.1 k) 1) (ad (B.1 k) 6) (ad (B.1 k) 8) (ad (B.1 k) 11) (ad (B.1 k) 14) (ad (B.1 k) 17) (ad (B.1 k) 20) (nn (B.1 k) 0) (nn (B.1 k) 1) (nn (B.1 k) 2) (nn (B.1 k) 3) (nn (B.1 k) 4) (ad (B.1 k) 15) (ad (B.1 k) 18) (ad (B.1 k) 21) (ad (B.1 k) 16) (ad (B.1 k) 19) (ad (B.1 k) 22) (nn (B.1 k) 19) (nn (B.1 k) 20) (nn (B.1 k) 21) (jj (B.1 k) 2) (jj (B.1 k) 3) (jj (B.1 k) 4) (rw' (B.1 k) 9) (rw' (B.1 k) 10) (rw' (B.1 k) 11) (pp (B.1 k) 0) (pp (B.1 k) 1) (pp (B.1 k) 2) ag hk (bG_at B.1 hk) (by first | assumption | omega) (by first | assumption | omega) (by first | assumption | omega)) hp ?_
  intro r u hu
  obtain ⟨rfl, f_e⟩ := hu
  refine ⟨_, hp, rfl, ?_⟩
  rw [f_e]
  exact tuS_P ia2 ib2 ic2 _
abbrev wq_X6_ofSector_B : List Cond := wq_X6_ofSector
theorem gd_X6_ofSector_B : wq_X6_ofSector_B.all goodWord = true := gd_X6_ofSector
set_option maxHeartbeats 4000000 in
set_option maxRecDepth 100000 in
theorem c_X6_ofSector_B (l : Launch) (D : va_G) (kA : Nat → ClassId) (z : Nat) (B : BS) (be k : Nat) (s9 wh : Nat) (hbe : B.2 0 = be) (hI : BI B) (hk : k < 4) (hs9 : s9 < nsS (B.1 k)) (hwh : wh ≤ 8) : mI l D (tyL kA) z yX6_ofSector wq_X6_ofSector_B ({ frames := 2, cells := 0, slots := 0, locals := 41 }) [.ref be, .int (nI k), .int (nI s9), .int (nI wh)] (wB kA B) (fun r w => w = (wB kA B) ∧ (r = oSe (B.1 k) s9 wh)) := by
  subst hbe
  have iT := hI.1 k hk
  obtain ⟨i0, i1, i4, i5, iv, ⟨ia0, ia1, ia2⟩, ⟨ib0, ib1, ib2⟩, ⟨ic0, ic1, ic2⟩, i6, ix, iy, iw, iP, iG, i10, i16, i9, i15, i3⟩ := id iT
  have iV := iT.vl4
  have iU := iT.un4
  have in7 := iP.1
  have in13 := iG.1
  have in8 : nn (B.1 k) 8 ≤ 8 := by rw [iP.2.2.1]; exact Nat.le_trans (cntG_le _ _) in7
  have in14 : nn (B.1 k) 14 ≤ 8 := by rw [iG.2.2.1]; exact Nat.le_trans (cntG_le _ _) in13
  have il12 := iP.2.2.2.1.2.1
  have il18 := iG.2.2.2.1.2.1
  have hp : (wB kA B).Perm ([((B.2 0), .inr (5, [.ref (B.2 1), .int (nI 4), .int (nI (B.2 2)), .int (nI (B.2 3)), .int (nI (B.2 4)), .int (nI (B.2 5)), .int (nI (B.2 6))])), ((B.2 1), .inl (kA 2, 4, .inr (.inr (.inr (.inr (bG B.1)))))), ((ad (B.1 k) 0), .inr (3, [.ref (ad (B.1 k) 1), .ref (ad (B.1 k) 6), .ref (ad (B.1 k) 8), .ref (ad (B.1 k) 11), .ref (ad (B.1 k) 14), .ref (ad (B.1 k) 17), .ref (ad (B.1 k) 20), .int (nI (nn (B.1 k) 0)), .int (nI (nn (B.1 k) 1)), .int (nI (nn (B.1 k) 2)), .int (nI (nn (B.1 k) 3)), .int (nI (nn (B.1 k) 4))])), ((ad (B.1 k) 8), .inr (0, [.int (nI 1), .ref (ad (B.1 k) 9), .ref (ad (B.1 k) 10), .int (nI (nn (B.1 k) 7)), .int (nI (nn (B.1 k) 8)), .int (nI (nn (B.1 k) 9)), .int (nI (nn (B.1 k) 10)), .int (nI (nn (B.1 k) 11)), .int (nI (nn (B.1 k) 12))])), ((ad (B.1 k) 9), .inl (kA 0, 72, .inl (rw' (B.1 k) 5))), ((ad (B.1 k) 11), .inr (0, [.int (nI 2), .ref (ad (B.1 k) 12), .ref (ad (B.1 k) 13), .int (nI (nn (B.1 k) 13)), .int (nI (nn (B.1 k) 14)), .int (nI (nn (B.1 k) 15)), .int (nI (nn (B.1 k) 16)), .int (nI (nn (B.1 k) 17)), .int (nI (nn (B.1 k) 18))])), ((ad (B.1 k) 12), .inl (kA 0, 72, .inl (rw' (B.1 k) 7)))] ++ _) := pkA hk (pm_places 25 [0, 1, 2, 10, 11, 13, 14] [3, 4, 5, 6, 7, 8, 9, 12, 15, 16, 17, 18, 19, 20, 21, 22, 23, 24] (by decide +kernel) rfl rfl rfl)
  refine frI (c_X6_ofSector l D kA z (B.2 0) (B.2 1) 4 (B.2 2) (B.2 3) (B.2 4) (B.2 5) (B.2 6) k (bG B.1) (ad (B.1 k) 0) (ad (B.1 k) 1) (ad (B.1 k) 6) (ad (B.1 k) 8) (ad (B.1 k) 11) (ad (B.1 k) 14) (ad (B.1 k) 17) (ad (B.1 k) 20) (nn (B.1 k) 0) (nn (B.1 k) 1) (nn (B.1 k) 2) (nn (B.1 k) 3) (nn (B.1 k) 4) (ad (B.1 k) 9) (ad (B.1 k) 10) (ad (B.1 k) 12) (ad (B.1 k) 13) (nn (B.1 k) 7) (nn (B.1 k) 8) (nn (B.1 k) 9) (nn (B.1 k) 10) (nn (B.1 k) 11) (nn (B.1 k) 12) (nn (B.1 k) 13) (nn (B.1 k) 14) (nn (B.1 k) 15) (nn (B.1 k) 16) (nn (B.1 k) 17) (nn (B.1 k) 18) (rw' (B.1 k) 5) (rw' (B.1 k) 7) s9 wh hk (bG_at B.1 hk) (by first | assumption | omega) (by first | assumption | omega) (by first | assumption | omega) (by first | assumption | omega) (by first | assumption | omega)) hp ?_
  intro r u hu
  obtain ⟨rfl, f_e⟩ := hu
  exact ⟨_, hp, rfl, f_e⟩
abbrev wq_X6_plainLong_B : List Cond := wq_X6_plainLong
theorem gd_X6_plainLong_B : wq_X6_plainLong_B.all goodWord = true := gd_X6_plainLong
set_option maxHeartbeats 4000000 in
set_option maxRecDepth 100000 in
theorem c_X6_plainLong_B (l : Launch) (D : va_G) (kA : Nat → ClassId) (z : Nat) (B : BS) (be k : Nat) (hbe : B.2 0 = be) (hI : BI B) (hk : k < 4) : mI l D (tyL kA) z yX6_plainLong wq_X6_plainLong_B ({ frames := 2, cells := 0, slots := 0, locals := 41 }) [.ref be, .int (nI k)] (wB kA B) (fun r w => w = (wB kA B) ∧ (r = nI (plS (B.1 k)))) := by
  subst hbe
  have iT := hI.1 k hk
  obtain ⟨i0, i1, i4, i5, iv, ⟨ia0, ia1, ia2⟩, ⟨ib0, ib1, ib2⟩, ⟨ic0, ic1, ic2⟩, i6, ix, iy, iw, iP, iG, i10, i16, i9, i15, i3⟩ := id iT
  have iV := iT.vl4
  have iU := iT.un4
  have in7 := iP.1
  have in13 := iG.1
  have in8 : nn (B.1 k) 8 ≤ 8 := by rw [iP.2.2.1]; exact Nat.le_trans (cntG_le _ _) in7
  have in14 : nn (B.1 k) 14 ≤ 8 := by rw [iG.2.2.1]; exact Nat.le_trans (cntG_le _ _) in13
  have il12 := iP.2.2.2.1.2.1
  have il18 := iG.2.2.2.1.2.1
  have hp : (wB kA B).Perm ([((B.2 0), .inr (5, [.ref (B.2 1), .int (nI 4), .int (nI (B.2 2)), .int (nI (B.2 3)), .int (nI (B.2 4)), .int (nI (B.2 5)), .int (nI (B.2 6))])), ((B.2 1), .inl (kA 2, 4, .inr (.inr (.inr (.inr (bG B.1)))))), ((ad (B.1 k) 0), .inr (3, [.ref (ad (B.1 k) 1), .ref (ad (B.1 k) 6), .ref (ad (B.1 k) 8), .ref (ad (B.1 k) 11), .ref (ad (B.1 k) 14), .ref (ad (B.1 k) 17), .ref (ad (B.1 k) 20), .int (nI (nn (B.1 k) 0)), .int (nI (nn (B.1 k) 1)), .int (nI (nn (B.1 k) 2)), .int (nI (nn (B.1 k) 3)), .int (nI (nn (B.1 k) 4))])), ((ad (B.1 k) 8), .inr (0, [.int (nI 1), .ref (ad (B.1 k) 9), .ref (ad (B.1 k) 10), .int (nI (nn (B.1 k) 7)), .int (nI (nn (B.1 k) 8)), .int (nI (nn (B.1 k) 9)), .int (nI (nn (B.1 k) 10)), .int (nI (nn (B.1 k) 11)), .int (nI (nn (B.1 k) 12))])), ((ad (B.1 k) 11), .inr (0, [.int (nI 2), .ref (ad (B.1 k) 12), .ref (ad (B.1 k) 13), .int (nI (nn (B.1 k) 13)), .int (nI (nn (B.1 k) 14)), .int (nI (nn (B.1 k) 15)), .int (nI (nn (B.1 k) 16)), .int (nI (nn (B.1 k) 17)), .int (nI (nn (B.1 k) 18))]))] ++ _) := pkA hk (pm_places 25 [0, 1, 2, 10, 13] [3, 4, 5, 6, 7, 8, 9, 11, 12, 14, 15, 16, 17, 18, 19, 20, 21, 22, 23, 24] (by decide +kernel) rfl rfl rfl)
  refine frI (c_X6_plainLong l D kA z (B.2 0) (B.2 1) 4 (B.2 2) (B.2 3) (B.2 4) (B.2 5) (B.2 6) k (bG B.1) (ad (B.1 k) 0) (ad (B.1 k) 1) (ad (B.1 k) 6) (ad (B.1 k) 8) (ad (B.1 k) 11) (ad (B.1 k) 14) (ad (B.1 k) 17) (ad (B.1 k) 20) (nn (B.1 k) 0) (nn (B.1 k) 1) (nn (B.1 k) 2) (nn (B.1 k) 3) (nn (B.1 k) 4) (ad (B.1 k) 9) (ad (B.1 k) 10) (ad (B.1 k) 12) (ad (B.1 k) 13) (nn (B.1 k) 7) (nn (B.1 k) 8) (nn (B.1 k) 9) (nn (B.1 k) 10) (nn (B.1 k) 11) (nn (B.1 k) 12) (nn (B.1 k) 13) (nn (B.1 k) 14) (nn (B.1 k) 15) (nn (B.1 k) 16) (nn (B.1 k) 17) (nn (B.1 k) 18) (rw' (B.1 k) 5) (rw' (B.1 k) 7) hk (bG_at B.1 hk) (by first | assumption | omega)) hp ?_
  intro r u hu
  obtain ⟨rfl, f_e⟩ := hu
  exact ⟨_, hp, rfl, f_e⟩
abbrev wq_X6_wouldLose_B : List Cond := wq_X6_wouldLose
theorem gd_X6_wouldLose_B : wq_X6_wouldLose_B.all goodWord = true := gd_X6_wouldLose
set_option maxHeartbeats 4000000 in
set_option maxRecDepth 100000 in
theorem c_X6_wouldLose_B (l : Launch) (D : va_G) (kA : Nat → ClassId) (z : Nat) (B : BS) (be k : Nat) (hbe : B.2 0 = be) (hI : BI B) (hk : k < 4) : mI l D (tyL kA) z yX6_wouldLose wq_X6_wouldLose_B ({ frames := 3, cells := 0, slots := 0, locals := 67 }) [.ref be, .int (nI k)] (wB kA B) (fun r w => w = (wB kA B) ∧ (r = wl (gdS (B.1 k)) (plS (B.1 k)))) := by
  subst hbe
  have iT := hI.1 k hk
  obtain ⟨i0, i1, i4, i5, iv, ⟨ia0, ia1, ia2⟩, ⟨ib0, ib1, ib2⟩, ⟨ic0, ic1, ic2⟩, i6, ix, iy, iw, iP, iG, i10, i16, i9, i15, i3⟩ := id iT
  have iV := iT.vl4
  have iU := iT.un4
  have in7 := iP.1
  have in13 := iG.1
  have in8 : nn (B.1 k) 8 ≤ 8 := by rw [iP.2.2.1]; exact Nat.le_trans (cntG_le _ _) in7
  have in14 : nn (B.1 k) 14 ≤ 8 := by rw [iG.2.2.1]; exact Nat.le_trans (cntG_le _ _) in13
  have il12 := iP.2.2.2.1.2.1
  have il18 := iG.2.2.2.1.2.1
  have hp : (wB kA B).Perm ([((B.2 0), .inr (5, [.ref (B.2 1), .int (nI 4), .int (nI (B.2 2)), .int (nI (B.2 3)), .int (nI (B.2 4)), .int (nI (B.2 5)), .int (nI (B.2 6))])), ((B.2 1), .inl (kA 2, 4, .inr (.inr (.inr (.inr (bG B.1)))))), ((ad (B.1 k) 0), .inr (3, [.ref (ad (B.1 k) 1), .ref (ad (B.1 k) 6), .ref (ad (B.1 k) 8), .ref (ad (B.1 k) 11), .ref (ad (B.1 k) 14), .ref (ad (B.1 k) 17), .ref (ad (B.1 k) 20), .int (nI (nn (B.1 k) 0)), .int (nI (nn (B.1 k) 1)), .int (nI (nn (B.1 k) 2)), .int (nI (nn (B.1 k) 3)), .int (nI (nn (B.1 k) 4))])), ((ad (B.1 k) 6), .inr (1, [.ref (ad (B.1 k) 7), .int (nI (nn (B.1 k) 6)), .int (jj (B.1 k) 1)])), ((ad (B.1 k) 8), .inr (0, [.int (nI 1), .ref (ad (B.1 k) 9), .ref (ad (B.1 k) 10), .int (nI (nn (B.1 k) 7)), .int (nI (nn (B.1 k) 8)), .int (nI (nn (B.1 k) 9)), .int (nI (nn (B.1 k) 10)), .int (nI (nn (B.1 k) 11)), .int (nI (nn (B.1 k) 12))])), ((ad (B.1 k) 9), .inl (kA 0, 72, .inl (rw' (B.1 k) 5))), ((ad (B.1 k) 11), .inr (0, [.int (nI 2), .ref (ad (B.1 k) 12), .ref (ad (B.1 k) 13), .int (nI (nn (B.1 k) 13)), .int (nI (nn (B.1 k) 14)), .int (nI (nn (B.1 k) 15)), .int (nI (nn (B.1 k) 16)), .int (nI (nn (B.1 k) 17)), .int (nI (nn (B.1 k) 18))])), ((ad (B.1 k) 12), .inl (kA 0, 72, .inl (rw' (B.1 k) 7)))] ++ _) := pkA hk (pm_places 25 [0, 1, 2, 8, 10, 11, 13, 14] [3, 4, 5, 6, 7, 9, 12, 15, 16, 17, 18, 19, 20, 21, 22, 23, 24] (by decide +kernel) rfl rfl rfl)
  refine frI (c_X6_wouldLose l D kA z (B.2 0) (B.2 1) 4 (B.2 2) (B.2 3) (B.2 4) (B.2 5) (B.2 6) k (bG B.1) (ad (B.1 k) 0) (ad (B.1 k) 1) (ad (B.1 k) 6) (ad (B.1 k) 8) (ad (B.1 k) 11) (ad (B.1 k) 14) (ad (B.1 k) 17) (ad (B.1 k) 20) (nn (B.1 k) 0) (nn (B.1 k) 1) (nn (B.1 k) 2) (nn (B.1 k) 3) (nn (B.1 k) 4) (nn (B.1 k) 6) (ad (B.1 k) 7) (ad (B.1 k) 9) (ad (B.1 k) 10) (ad (B.1 k) 12) (ad (B.1 k) 13) (jj (B.1 k) 1) (nn (B.1 k) 7) (nn (B.1 k) 8) (nn (B.1 k) 9) (nn (B.1 k) 10) (nn (B.1 k) 11) (nn (B.1 k) 12) (nn (B.1 k) 13) (nn (B.1 k) 14) (nn (B.1 k) 15) (nn (B.1 k) 16) (nn (B.1 k) 17) (nn (B.1 k) 18) (rw' (B.1 k) 5) (rw' (B.1 k) 7) hk (bG_at B.1 hk) (by first | assumption | omega) (by first | assumption | omega) (by first | assumption | omega) (by first | assumption | omega) (by first | assumption | omega) (by first | assumption | omega) (by first | assumption | omega) (by first | assumption | omega) (by first | assumption | omega) (by first | assumption | omega) (by first | assumption | omega) (by first | assumption | omega) (by first | assumption | omega)) hp ?_
  intro r u hu
  obtain ⟨rfl, f_e⟩ := hu
  exact ⟨_, hp, rfl, f_e⟩
abbrev wq_X6_goodBy_B : List Cond := wq_X6_goodBy
theorem gd_X6_goodBy_B : wq_X6_goodBy_B.all goodWord = true := gd_X6_goodBy
set_option maxHeartbeats 4000000 in
set_option maxRecDepth 100000 in
theorem c_X6_goodBy_B (l : Launch) (D : va_G) (kA : Nat → ClassId) (z : Nat) (B : BS) (be k : Nat) (ac : Nat) (hbe : B.2 0 = be) (hI : BI B) (hk : k < 4) (hac : ac ≤ 2) : mI l D (tyL kA) z yX6_goodBy wq_X6_goodBy_B ({ frames := 1, cells := 0, slots := 0, locals := 22 }) [.ref be, .int (nI k), .int (nI ac)] (wB kA B) (fun r w => w = (wB kA B) ∧ (r = nI (ow ac (nn (B.1 k) 14) (nn (B.1 k) 8)))) := by
  subst hbe
  have iT := hI.1 k hk
  obtain ⟨i0, i1, i4, i5, iv, ⟨ia0, ia1, ia2⟩, ⟨ib0, ib1, ib2⟩, ⟨ic0, ic1, ic2⟩, i6, ix, iy, iw, iP, iG, i10, i16, i9, i15, i3⟩ := id iT
  have iV := iT.vl4
  have iU := iT.un4
  have in7 := iP.1
  have in13 := iG.1
  have in8 : nn (B.1 k) 8 ≤ 8 := by rw [iP.2.2.1]; exact Nat.le_trans (cntG_le _ _) in7
  have in14 : nn (B.1 k) 14 ≤ 8 := by rw [iG.2.2.1]; exact Nat.le_trans (cntG_le _ _) in13
  have il12 := iP.2.2.2.1.2.1
  have il18 := iG.2.2.2.1.2.1
  have hp : (wB kA B).Perm ([((B.2 0), .inr (5, [.ref (B.2 1), .int (nI 4), .int (nI (B.2 2)), .int (nI (B.2 3)), .int (nI (B.2 4)), .int (nI (B.2 5)), .int (nI (B.2 6))])), ((B.2 1), .inl (kA 2, 4, .inr (.inr (.inr (.inr (bG B.1)))))), ((ad (B.1 k) 0), .inr (3, [.ref (ad (B.1 k) 1), .ref (ad (B.1 k) 6), .ref (ad (B.1 k) 8), .ref (ad (B.1 k) 11), .ref (ad (B.1 k) 14), .ref (ad (B.1 k) 17), .ref (ad (B.1 k) 20), .int (nI (nn (B.1 k) 0)), .int (nI (nn (B.1 k) 1)), .int (nI (nn (B.1 k) 2)), .int (nI (nn (B.1 k) 3)), .int (nI (nn (B.1 k) 4))])), ((ad (B.1 k) 8), .inr (0, [.int (nI 1), .ref (ad (B.1 k) 9), .ref (ad (B.1 k) 10), .int (nI (nn (B.1 k) 7)), .int (nI (nn (B.1 k) 8)), .int (nI (nn (B.1 k) 9)), .int (nI (nn (B.1 k) 10)), .int (nI (nn (B.1 k) 11)), .int (nI (nn (B.1 k) 12))])), ((ad (B.1 k) 11), .inr (0, [.int (nI 2), .ref (ad (B.1 k) 12), .ref (ad (B.1 k) 13), .int (nI (nn (B.1 k) 13)), .int (nI (nn (B.1 k) 14)), .int (nI (nn (B.1 k) 15)), .int (nI (nn (B.1 k) 16)), .int (nI (nn (B.1 k) 17)), .int (nI (nn (B.1 k) 18))]))] ++ _) := pkA hk (pm_places 25 [0, 1, 2, 10, 13] [3, 4, 5, 6, 7, 8, 9, 11, 12, 14, 15, 16, 17, 18, 19, 20, 21, 22, 23, 24] (by decide +kernel) rfl rfl rfl)
  refine frI (c_X6_goodBy l D kA z (B.2 0) (B.2 1) 4 (B.2 2) (B.2 3) (B.2 4) (B.2 5) (B.2 6) k (bG B.1) (ad (B.1 k) 0) (ad (B.1 k) 1) (ad (B.1 k) 6) (ad (B.1 k) 8) (ad (B.1 k) 11) (ad (B.1 k) 14) (ad (B.1 k) 17) (ad (B.1 k) 20) (nn (B.1 k) 0) (nn (B.1 k) 1) (nn (B.1 k) 2) (nn (B.1 k) 3) (nn (B.1 k) 4) (ad (B.1 k) 9) (ad (B.1 k) 10) (ad (B.1 k) 12) (ad (B.1 k) 13) (nn (B.1 k) 7) (nn (B.1 k) 8) (nn (B.1 k) 9) (nn (B.1 k) 10) (nn (B.1 k) 11) (nn (B.1 k) 12) (nn (B.1 k) 13) (nn (B.1 k) 14) (nn (B.1 k) 15) (nn (B.1 k) 16) (nn (B.1 k) 17) (nn (B.1 k) 18) (rw' (B.1 k) 5) (rw' (B.1 k) 7) ac hk (bG_at B.1 hk) (by first | assumption | omega)) hp ?_
  intro r u hu
  obtain ⟨rfl, f_e⟩ := hu
  exact ⟨_, hp, rfl, f_e⟩
abbrev wq_X6_sure_B : List Cond := wq_X6_sure
theorem gd_X6_sure_B : wq_X6_sure_B.all goodWord = true := gd_X6_sure
set_option maxHeartbeats 4000000 in
set_option maxRecDepth 100000 in
theorem c_X6_sure_B (l : Launch) (D : va_G) (kA : Nat → ClassId) (z : Nat) (B : BS) (be k : Nat) (hbe : B.2 0 = be) (hI : BI B) (hk : k < 4) : mD l D (tyL kA) z yX6_sure wq_X6_sure_B ({ frames := 1, cells := 0, slots := 0, locals := 22 }) [.ref be, .int (nI k)] (wB kA B) (fun r w => w = (wB kA B) ∧ (r = sureF (nn (B.1 k) 1) (nn (B.1 k) 6) (nn (B.1 k) 2))) := by
  subst hbe
  have iT := hI.1 k hk
  obtain ⟨i0, i1, i4, i5, iv, ⟨ia0, ia1, ia2⟩, ⟨ib0, ib1, ib2⟩, ⟨ic0, ic1, ic2⟩, i6, ix, iy, iw, iP, iG, i10, i16, i9, i15, i3⟩ := id iT
  have iV := iT.vl4
  have iU := iT.un4
  have in7 := iP.1
  have in13 := iG.1
  have in8 : nn (B.1 k) 8 ≤ 8 := by rw [iP.2.2.1]; exact Nat.le_trans (cntG_le _ _) in7
  have in14 : nn (B.1 k) 14 ≤ 8 := by rw [iG.2.2.1]; exact Nat.le_trans (cntG_le _ _) in13
  have il12 := iP.2.2.2.1.2.1
  have il18 := iG.2.2.2.1.2.1
  have hp : (wB kA B).Perm ([((B.2 0), .inr (5, [.ref (B.2 1), .int (nI 4), .int (nI (B.2 2)), .int (nI (B.2 3)), .int (nI (B.2 4)), .int (nI (B.2 5)), .int (nI (B.2 6))])), ((B.2 1), .inl (kA 2, 4, .inr (.inr (.inr (.inr (bG B.1)))))), ((ad (B.1 k) 0), .inr (3, [.ref (ad (B.1 k) 1), .ref (ad (B.1 k) 6), .ref (ad (B.1 k) 8), .ref (ad (B.1 k) 11), .ref (ad (B.1 k) 14), .ref (ad (B.1 k) 17), .ref (ad (B.1 k) 20), .int (nI (nn (B.1 k) 0)), .int (nI (nn (B.1 k) 1)), .int (nI (nn (B.1 k) 2)), .int (nI (nn (B.1 k) 3)), .int (nI (nn (B.1 k) 4))])), ((ad (B.1 k) 6), .inr (1, [.ref (ad (B.1 k) 7), .int (nI (nn (B.1 k) 6)), .int (jj (B.1 k) 1)]))] ++ _) := pkA hk (pm_places 25 [0, 1, 2, 8] [3, 4, 5, 6, 7, 9, 10, 11, 12, 13, 14, 15, 16, 17, 18, 19, 20, 21, 22, 23, 24] (by decide +kernel) rfl rfl rfl)
  refine frD (c_X6_sure l D kA z (B.2 0) (B.2 1) 4 (B.2 2) (B.2 3) (B.2 4) (B.2 5) (B.2 6) k (bG B.1) (ad (B.1 k) 0) (ad (B.1 k) 1) (ad (B.1 k) 6) (ad (B.1 k) 8) (ad (B.1 k) 11) (ad (B.1 k) 14) (ad (B.1 k) 17) (ad (B.1 k) 20) (nn (B.1 k) 0) (nn (B.1 k) 1) (nn (B.1 k) 2) (nn (B.1 k) 3) (nn (B.1 k) 4) (ad (B.1 k) 7) (nn (B.1 k) 6) (jj (B.1 k) 1) hk (bG_at B.1 hk) (by first | assumption | omega) (by first | assumption | omega) (by first | assumption | omega)) hp ?_
  intro r u hu
  obtain ⟨rfl, f_e⟩ := hu
  exact ⟨_, hp, rfl, f_e⟩
abbrev wq_X6_digestOfTrack_B : List Cond := wq_X6_digestOfTrack
theorem gd_X6_digestOfTrack_B : wq_X6_digestOfTrack_B.all goodWord = true := gd_X6_digestOfTrack
set_option maxHeartbeats 4000000 in
set_option maxRecDepth 100000 in
theorem c_X6_digestOfTrack_B (l : Launch) (D : va_G) (kA : Nat → ClassId) (z : Nat) (B : BS) (be k : Nat) (d9 : Int64) (hbe : B.2 0 = be) (hI : BI B) (hk : k < 4) : mL l D (tyL kA) z yX6_digestOfTrack wq_X6_digestOfTrack_B ({ frames := 4, cells := 0, slots := 0, locals := 93 }) [.ref be, .int (nI k), .long d9] (wB kA B) (fun r w => w = (wB kA B) ∧ (r = dgT (B.1 k) d9)) := by
  subst hbe
  have iT := hI.1 k hk
  obtain ⟨i0, i1, i4, i5, iv, ⟨ia0, ia1, ia2⟩, ⟨ib0, ib1, ib2⟩, ⟨ic0, ic1, ic2⟩, i6, ix, iy, iw, iP, iG, i10, i16, i9, i15, i3⟩ := id iT
  have iV := iT.vl4
  have iU := iT.un4
  have in7 := iP.1
  have in13 := iG.1
  have in8 : nn (B.1 k) 8 ≤ 8 := by rw [iP.2.2.1]; exact Nat.le_trans (cntG_le _ _) in7
  have in14 : nn (B.1 k) 14 ≤ 8 := by rw [iG.2.2.1]; exact Nat.le_trans (cntG_le _ _) in13
  have il12 := iP.2.2.2.1.2.1
  have il18 := iG.2.2.2.1.2.1
  have hp : (wB kA B).Perm ([((B.2 0), .inr (5, [.ref (B.2 1), .int (nI 4), .int (nI (B.2 2)), .int (nI (B.2 3)), .int (nI (B.2 4)), .int (nI (B.2 5)), .int (nI (B.2 6))])), ((B.2 1), .inl (kA 2, 4, .inr (.inr (.inr (.inr (bG B.1)))))), ((ad (B.1 k) 0), .inr (3, [.ref (ad (B.1 k) 1), .ref (ad (B.1 k) 6), .ref (ad (B.1 k) 8), .ref (ad (B.1 k) 11), .ref (ad (B.1 k) 14), .ref (ad (B.1 k) 17), .ref (ad (B.1 k) 20), .int (nI (nn (B.1 k) 0)), .int (nI (nn (B.1 k) 1)), .int (nI (nn (B.1 k) 2)), .int (nI (nn (B.1 k) 3)), .int (nI (nn (B.1 k) 4))])), ((ad (B.1 k) 1), .inr (2, [.ref (ad (B.1 k) 2), .ref (ad (B.1 k) 3), .ref (ad (B.1 k) 4), .ref (ad (B.1 k) 5), .int (nI (nn (B.1 k) 5)), .int (jj (B.1 k) 0)])), ((ad (B.1 k) 3), .inl (kA 0, 400, .inl (rw' (B.1 k) 1))), ((ad (B.1 k) 6), .inr (1, [.ref (ad (B.1 k) 7), .int (nI (nn (B.1 k) 6)), .int (jj (B.1 k) 1)])), ((ad (B.1 k) 8), .inr (0, [.int (nI 1), .ref (ad (B.1 k) 9), .ref (ad (B.1 k) 10), .int (nI (nn (B.1 k) 7)), .int (nI (nn (B.1 k) 8)), .int (nI (nn (B.1 k) 9)), .int (nI (nn (B.1 k) 10)), .int (nI (nn (B.1 k) 11)), .int (nI (nn (B.1 k) 12))])), ((ad (B.1 k) 9), .inl (kA 0, 72, .inl (rw' (B.1 k) 5))), ((ad (B.1 k) 11), .inr (0, [.int (nI 2), .ref (ad (B.1 k) 12), .ref (ad (B.1 k) 13), .int (nI (nn (B.1 k) 13)), .int (nI (nn (B.1 k) 14)), .int (nI (nn (B.1 k) 15)), .int (nI (nn (B.1 k) 16)), .int (nI (nn (B.1 k) 17)), .int (nI (nn (B.1 k) 18))])), ((ad (B.1 k) 12), .inl (kA 0, 72, .inl (rw' (B.1 k) 7))), ((ad (B.1 k) 14), .inr (4, [.ref (ad (B.1 k) 15), .double (pp (B.1 k) 0)])), ((ad (B.1 k) 15), .inr (1, [.ref (ad (B.1 k) 16), .int (nI (nn (B.1 k) 19)), .int (jj (B.1 k) 2)])), ((ad (B.1 k) 16), .inl (kA 0, 400, .inl (rw' (B.1 k) 9))), ((ad (B.1 k) 17), .inr (4, [.ref (ad (B.1 k) 18), .double (pp (B.1 k) 1)])), ((ad (B.1 k) 18), .inr (1, [.ref (ad (B.1 k) 19), .int (nI (nn (B.1 k) 20)), .int (jj (B.1 k) 3)])), ((ad (B.1 k) 19), .inl (kA 0, 400, .inl (rw' (B.1 k) 10))), ((ad (B.1 k) 20), .inr (4, [.ref (ad (B.1 k) 21), .double (pp (B.1 k) 2)])), ((ad (B.1 k) 21), .inr (1, [.ref (ad (B.1 k) 22), .int (nI (nn (B.1 k) 21)), .int (jj (B.1 k) 4)])), ((ad (B.1 k) 22), .inl (kA 0, 400, .inl (rw' (B.1 k) 11)))] ++ _) := pkA hk (pm_places 25 [0, 1, 2, 3, 5, 8, 10, 11, 13, 14, 16, 17, 18, 19, 20, 21, 22, 23, 24] [4, 6, 7, 9, 12, 15] (by decide +kernel) rfl rfl rfl)
  refine frL (c_X6_digestOfTrack l D kA z (B.2 0) (B.2 1) 4 (B.2 2) (B.2 3) (B.2 4) (B.2 5) (B.2 6) k (bG B.1) (ad (B.1 k) 0) (ad (B.1 k) 1) (ad (B.1 k) 6) (ad (B.1 k) 8) (ad (B.1 k) 11) (ad (B.1 k) 14) (ad (B.1 k) 17) (ad (B.1 k) 20) (nn (B.1 k) 0) (nn (B.1 k) 1) (nn (B.1 k) 2) (nn (B.1 k) 3) (nn (B.1 k) 4) (ad (B.1 k) 2) (ad (B.1 k) 3) (ad (B.1 k) 4) (ad (B.1 k) 5) (nn (B.1 k) 5) (jj (B.1 k) 0) (rw' (B.1 k) 1) (nn (B.1 k) 6) (ad (B.1 k) 7) (ad (B.1 k) 9) (ad (B.1 k) 10) (ad (B.1 k) 12) (ad (B.1 k) 13) (jj (B.1 k) 1) (nn (B.1 k) 7) (nn (B.1 k) 8) (nn (B.1 k) 9) (nn (B.1 k) 10) (nn (B.1 k) 11) (nn (B.1 k) 12) (nn (B.1 k) 13) (nn (B.1 k) 14) (nn (B.1 k) 15) (nn (B.1 k) 16) (nn (B.1 k) 17) (nn (B.1 k) 18) (rw' (B.1 k) 5) (rw' (B.1 k) 7) (ad (B.1 k) 15) (ad (B.1 k) 18) (ad (B.1 k) 21) (ad (B.1 k) 16) (ad (B.1 k) 19) (ad (B.1 k) 22) (nn (B.1 k) 19) (nn (B.1 k) 20) (nn (B.1 k) 21) (jj (B.1 k) 2) (jj (B.1 k) 3) (jj (B.1 k) 4) (rw' (B.1 k) 9) (rw' (B.1 k) 10) (rw' (B.1 k) 11) (pp (B.1 k) 0) (pp (B.1 k) 1) (pp (B.1 k) 2) d9 hk (bG_at B.1 hk) (by first | assumption | omega) (by first | assumption | omega) (by first | assumption | omega) (by first | assumption | omega) (by first | assumption | omega) (by first | assumption | omega) (by first | assumption | omega) (by first | assumption | omega) (by first | assumption | omega) (by first | assumption | omega) (by first | assumption | omega) (by first | assumption | omega) (by first | assumption | omega) (by first | assumption | omega) (by first | assumption | omega) (by first | assumption | omega)) hp ?_
  intro r u hu
  obtain ⟨rfl, f_e⟩ := hu
  exact ⟨_, hp, rfl, f_e⟩
abbrev wq_X6_many_B : List Cond := wq_X6_many
theorem gd_X6_many_B : wq_X6_many_B.all goodWord = true := gd_X6_many
set_option maxHeartbeats 4000000 in
set_option maxRecDepth 100000 in
theorem c_X6_many_B (l : Launch) (D : va_G) (kA : Nat → ClassId) (z : Nat) (B : BS) (be wh : Nat) (hbe : B.2 0 = be) (hI : BI B) (hwh : wh ≤ 6) : mI l D (tyL kA) z yX6_many wq_X6_many_B ({ frames := 5, cells := 0, slots := 0, locals := 110 }) [.ref be, .int (nI wh)] (wB kA B) (fun r w => w = (wB kA B) ∧ (r = mN 4 (B.2 2) (B.2 3) (B.2 4) (shB B) (B.2 5) (B.2 6) wh)) := by
  subst hbe
  have hp : (wB kA B).Perm ([((B.2 0), .inr (5, [.ref (B.2 1), .int (nI 4), .int (nI (B.2 2)), .int (nI (B.2 3)), .int (nI (B.2 4)), .int (nI (B.2 5)), .int (nI (B.2 6))])), ((B.2 1), .inl (kA 2, 4, .inr (.inr (.inr (.inr (bG B.1)))))), ((ad (B.1 0) 0), .inr (3, [.ref (ad (B.1 0) 1), .ref (ad (B.1 0) 6), .ref (ad (B.1 0) 8), .ref (ad (B.1 0) 11), .ref (ad (B.1 0) 14), .ref (ad (B.1 0) 17), .ref (ad (B.1 0) 20), .int (nI (nn (B.1 0) 0)), .int (nI (nn (B.1 0) 1)), .int (nI (nn (B.1 0) 2)), .int (nI (nn (B.1 0) 3)), .int (nI (nn (B.1 0) 4))])), ((ad (B.1 0) 1), .inr (2, [.ref (ad (B.1 0) 2), .ref (ad (B.1 0) 3), .ref (ad (B.1 0) 4), .ref (ad (B.1 0) 5), .int (nI (nn (B.1 0) 5)), .int (jj (B.1 0) 0)])), ((ad (B.1 0) 5), .inl (kA 0, 400, .inl (rw' (B.1 0) 3))), ((ad (B.1 1) 0), .inr (3, [.ref (ad (B.1 1) 1), .ref (ad (B.1 1) 6), .ref (ad (B.1 1) 8), .ref (ad (B.1 1) 11), .ref (ad (B.1 1) 14), .ref (ad (B.1 1) 17), .ref (ad (B.1 1) 20), .int (nI (nn (B.1 1) 0)), .int (nI (nn (B.1 1) 1)), .int (nI (nn (B.1 1) 2)), .int (nI (nn (B.1 1) 3)), .int (nI (nn (B.1 1) 4))])), ((ad (B.1 1) 1), .inr (2, [.ref (ad (B.1 1) 2), .ref (ad (B.1 1) 3), .ref (ad (B.1 1) 4), .ref (ad (B.1 1) 5), .int (nI (nn (B.1 1) 5)), .int (jj (B.1 1) 0)])), ((ad (B.1 1) 5), .inl (kA 0, 400, .inl (rw' (B.1 1) 3))), ((ad (B.1 2) 0), .inr (3, [.ref (ad (B.1 2) 1), .ref (ad (B.1 2) 6), .ref (ad (B.1 2) 8), .ref (ad (B.1 2) 11), .ref (ad (B.1 2) 14), .ref (ad (B.1 2) 17), .ref (ad (B.1 2) 20), .int (nI (nn (B.1 2) 0)), .int (nI (nn (B.1 2) 1)), .int (nI (nn (B.1 2) 2)), .int (nI (nn (B.1 2) 3)), .int (nI (nn (B.1 2) 4))])), ((ad (B.1 2) 1), .inr (2, [.ref (ad (B.1 2) 2), .ref (ad (B.1 2) 3), .ref (ad (B.1 2) 4), .ref (ad (B.1 2) 5), .int (nI (nn (B.1 2) 5)), .int (jj (B.1 2) 0)])), ((ad (B.1 2) 5), .inl (kA 0, 400, .inl (rw' (B.1 2) 3))), ((ad (B.1 3) 0), .inr (3, [.ref (ad (B.1 3) 1), .ref (ad (B.1 3) 6), .ref (ad (B.1 3) 8), .ref (ad (B.1 3) 11), .ref (ad (B.1 3) 14), .ref (ad (B.1 3) 17), .ref (ad (B.1 3) 20), .int (nI (nn (B.1 3) 0)), .int (nI (nn (B.1 3) 1)), .int (nI (nn (B.1 3) 2)), .int (nI (nn (B.1 3) 3)), .int (nI (nn (B.1 3) 4))])), ((ad (B.1 3) 1), .inr (2, [.ref (ad (B.1 3) 2), .ref (ad (B.1 3) 3), .ref (ad (B.1 3) 4), .ref (ad (B.1 3) 5), .int (nI (nn (B.1 3) 5)), .int (jj (B.1 3) 0)])), ((ad (B.1 3) 5), .inl (kA 0, 400, .inl (rw' (B.1 3) 3)))] ++ _) := pm_places 94 [0, 1, 2, 3, 7, 25, 26, 30, 48, 49, 53, 71, 72, 76] [4, 5, 6, 8, 9, 10, 11, 12, 13, 14, 15, 16, 17, 18, 19, 20, 21, 22, 23, 24, 27, 28, 29, 31, 32, 33, 34, 35, 36, 37, 38, 39, 40, 41, 42, 43, 44, 45, 46, 47, 50, 51, 52, 54, 55, 56, 57, 58, 59, 60, 61, 62, 63, 64, 65, 66, 67, 68, 69, 70, 73, 74, 75, 77, 78, 79, 80, 81, 82, 83, 84, 85, 86, 87, 88, 89, 90, 91, 92, 93] (by decide +kernel) rfl rfl rfl
  refine frI (c_X6_many l D kA z (B.2 0) (B.2 1) (B.2 2) (B.2 3) (B.2 4) (B.2 5) (B.2 6) (bG B.1) (ad (B.1 0) 0) (ad (B.1 0) 1) (ad (B.1 0) 6) (ad (B.1 0) 8) (ad (B.1 0) 11) (ad (B.1 0) 14) (ad (B.1 0) 17) (ad (B.1 0) 20) (nn (B.1 0) 0) (nn (B.1 0) 1) (nn (B.1 0) 2) (nn (B.1 0) 3) (nn (B.1 0) 4) (ad (B.1 0) 2) (ad (B.1 0) 3) (ad (B.1 0) 4) (ad (B.1 0) 5) (nn (B.1 0) 5) (jj (B.1 0) 0) (rw' (B.1 0) 3) (ad (B.1 1) 0) (ad (B.1 1) 1) (ad (B.1 1) 6) (ad (B.1 1) 8) (ad (B.1 1) 11) (ad (B.1 1) 14) (ad (B.1 1) 17) (ad (B.1 1) 20) (nn (B.1 1) 0) (nn (B.1 1) 1) (nn (B.1 1) 2) (nn (B.1 1) 3) (nn (B.1 1) 4) (ad (B.1 1) 2) (ad (B.1 1) 3) (ad (B.1 1) 4) (ad (B.1 1) 5) (nn (B.1 1) 5) (jj (B.1 1) 0) (rw' (B.1 1) 3) (ad (B.1 2) 0) (ad (B.1 2) 1) (ad (B.1 2) 6) (ad (B.1 2) 8) (ad (B.1 2) 11) (ad (B.1 2) 14) (ad (B.1 2) 17) (ad (B.1 2) 20) (nn (B.1 2) 0) (nn (B.1 2) 1) (nn (B.1 2) 2) (nn (B.1 2) 3) (nn (B.1 2) 4) (ad (B.1 2) 2) (ad (B.1 2) 3) (ad (B.1 2) 4) (ad (B.1 2) 5) (nn (B.1 2) 5) (jj (B.1 2) 0) (rw' (B.1 2) 3) (ad (B.1 3) 0) (ad (B.1 3) 1) (ad (B.1 3) 6) (ad (B.1 3) 8) (ad (B.1 3) 11) (ad (B.1 3) 14) (ad (B.1 3) 17) (ad (B.1 3) 20) (nn (B.1 3) 0) (nn (B.1 3) 1) (nn (B.1 3) 2) (nn (B.1 3) 3) (nn (B.1 3) 4) (ad (B.1 3) 2) (ad (B.1 3) 3) (ad (B.1 3) 4) (ad (B.1 3) 5) (nn (B.1 3) 5) (jj (B.1 3) 0) (rw' (B.1 3) 3) wh (bG_at B.1 (k := 0) (by decide)) (bG_at B.1 (k := 1) (by decide)) (bG_at B.1 (k := 2) (by decide)) (bG_at B.1 (k := 3) (by decide)) (hI.1 0 (by decide)).2.2.2.1 (hI.1 1 (by decide)).2.2.2.1 (hI.1 2 (by decide)).2.2.2.1 (hI.1 3 (by decide)).2.2.2.1 (by first | assumption | omega)) hp ?_
  intro r u hu
  obtain ⟨rfl, f_e⟩ := hu
  exact ⟨_, hp, rfl, f_e⟩