abbrev wq_X6_speed_B : List Cond := wq_X6_speed
theorem gd_X6_speed_B : wq_X6_speed_B.all goodWord = true := gd_X6_speed
set_option maxHeartbeats 4000000 in
set_option maxRecDepth 100000 in
theorem c_X6_speed_B (l : Launch) (D : va_G) (kA : Nat → ClassId) (z : Nat) (B : BS) (be x : Nat) (hbe : B.2 0 = be) (hI : BI B) (hx6 : 6 ≤ x) (hx11 : x ≤ 11) : mI l D (tyL kA) z yX6_speed wq_X6_speed_B ({ frames := 0, cells := 0, slots := 0, locals := 0 }) [.ref be, .int (nI x)] (wB kA B) (fun r w => w = (wB kA (B.1, uP B.2 2 x))) := by
  subst hbe
  have hp : (wB kA B).Perm ([((B.2 0), .inr (5, [.ref (B.2 1), .int (nI 4), .int (nI (B.2 2)), .int (nI (B.2 3)), .int (nI (B.2 4)), .int (nI (B.2 5)), .int (nI (B.2 6))]))] ++ _) := pm_places 94 [0] [1, 2, 3, 4, 5, 6, 7, 8, 9, 10, 11, 12, 13, 14, 15, 16, 17, 18, 19, 20, 21, 22, 23, 24, 25, 26, 27, 28, 29, 30, 31, 32, 33, 34, 35, 36, 37, 38, 39, 40, 41, 42, 43, 44, 45, 46, 47, 48, 49, 50, 51, 52, 53, 54, 55, 56, 57, 58, 59, 60, 61, 62, 63, 64, 65, 66, 67, 68, 69, 70, 71, 72, 73, 74, 75, 76, 77, 78, 79, 80, 81, 82, 83, 84, 85, 86, 87, 88, 89, 90, 91, 92, 93] (by decide +kernel) rfl rfl rfl
  refine frI (c_X6_speed l D kA z (B.2 0) (B.2 1) 4 (B.2 2) (B.2 3) (B.2 4) (B.2 5) (B.2 6) x (by first | assumption | omega) (by first | assumption | omega)) hp ?_
  intro r u hu
  obtain ⟨rfl, f_e⟩ := hu
  exact ⟨wB kA (B.1, uP B.2 2 x), (pm_places 94 [0] [1, 2, 3, 4, 5, 6, 7, 8, 9, 10, 11, 12, 13, 14, 15, 16, 17, 18, 19, 20, 21, 22, 23, 24, 25, 26, 27, 28, 29, 30, 31, 32, 33, 34, 35, 36, 37, 38, 39, 40, 41, 42, 43, 44, 45, 46, 47, 48, 49, 50, 51, 52, 53, 54, 55, 56, 57, 58, 59, 60, 61, 62, 63, 64, 65, 66, 67, 68, 69, 70, 71, 72, 73, 74, 75, 76, 77, 78, 79, 80, 81, 82, 83, 84, 85, 86, 87, 88, 89, 90, 91, 92, 93] (by decide +kernel) rfl rfl rfl), rfl⟩
abbrev wq_X6_write_B : List Cond := wq_X6_write
theorem gd_X6_write_B : wq_X6_write_B.all goodWord = true := gd_X6_write
set_option maxHeartbeats 4000000 in
set_option maxRecDepth 100000 in
theorem c_X6_write_B (l : Launch) (D : va_G) (kA : Nat → ClassId) (z : Nat) (B : BS) (be k : Nat) (v9 : Nat) (hbe : B.2 0 = be) (hI : BI B) (hk : k < 4) (hv9 : v9 ≤ 255) (hroom : nn (B.1 k) 5 + cB (nn (B.1 k) 0) ≤ 400) : mI l D (tyL kA) z yX6_write wq_X6_write_B ({ frames := 3, cells := 0, slots := 0, locals := 72 }) [.ref be, .int (nI k), .int (nI v9)] (wB kA B) (fun r w => ∃ (S2 : TS), w = (wB kA (uP B.1 k S2, B.2)) ∧ (r = nI (nn (B.1 k) 5 + cB (nn (B.1 k) 0))) ∧ (wrS (B.1 k) S2 (nn (B.1 k) 5 + cB (nn (B.1 k) 0)) (B.2 2))) := by
  subst hbe
  have iT := hI.1 k hk
  obtain ⟨i0, i1, i4, i5, iv, ⟨ia0, ia1, ia2⟩, ⟨ib0, ib1, ib2⟩, ⟨ic0, ic1, ic2⟩, i6, ix, iy, iw, iP, iG, i10, i16, i9, i15, i3⟩ := id iT
  have iV := iT.vl4
  have iU := iT.un4
  have in7 := iP.1
  have in13 := iG.1
  have in8 : nn (B.1 k) 8 ≤ 8 := by rw [iP.2.2.1]; exact Nat.le_trans (cntG_le _ _) in7
  have in14 : nn (B.1 k) 14 ≤ 8 := by rw [iG.2.2.1]; exact Nat.le_trans (cntG_le _ _) in13
  have il12 := iP.2.2.2.1.2.1
  have il18 := iG.2.2.2.1.2.1
  have hp : (wB kA B).Perm ([((B.2 0), .inr (5, [.ref (B.2 1), .int (nI 4), .int (nI (B.2 2)), .int (nI (B.2 3)), .int (nI (B.2 4)), .int (nI (B.2 5)), .int (nI (B.2 6))])), ((B.2 1), .inl (kA 2, 4, .inr (.inr (.inr (.inr (bG B.1)))))), ((ad (B.1 k) 0), .inr (3, [.ref (ad (B.1 k) 1), .ref (ad (B.1 k) 6), .ref (ad (B.1 k) 8), .ref (ad (B.1 k) 11), .ref (ad (B.1 k) 14), .ref (ad (B.1 k) 17), .ref (ad (B.1 k) 20), .int (nI (nn (B.1 k) 0)), .int (nI (nn (B.1 k) 1)), .int (nI (nn (B.1 k) 2)), .int (nI (nn (B.1 k) 3)), .int (nI (nn (B.1 k) 4))])), ((ad (B.1 k) 1), .inr (2, [.ref (ad (B.1 k) 2), .ref (ad (B.1 k) 3), .ref (ad (B.1 k) 4), .ref (ad (B.1 k) 5), .int (nI (nn (B.1 k) 5)), .int (jj (B.1 k) 0)])), ((ad (B.1 k) 2), .inl (kA 0, 400, .inl (rw' (B.1 k) 0))), ((ad (B.1 k) 3), .inl (kA 0, 400, .inl (rw' (B.1 k) 1))), ((ad (B.1 k) 4), .inl (kA 1, 400, .inl (rw' (B.1 k) 2))), ((ad (B.1 k) 5), .inl (kA 0, 400, .inl (rw' (B.1 k) 3)))] ++ _) := pkA hk (pm_places 25 [0, 1, 2, 3, 4, 5, 6, 7] [8, 9, 10, 11, 12, 13, 14, 15, 16, 17, 18, 19, 20, 21, 22, 23, 24] (by decide +kernel) rfl rfl rfl)
  refine frI (c_X6_write l D kA z (B.2 0) (B.2 1) 4 (B.2 2) (B.2 3) (B.2 4) (B.2 5) (B.2 6) k (bG B.1) (ad (B.1 k) 0) (ad (B.1 k) 1) (ad (B.1 k) 6) (ad (B.1 k) 8) (ad (B.1 k) 11) (ad (B.1 k) 14) (ad (B.1 k) 17) (ad (B.1 k) 20) (nn (B.1 k) 0) (nn (B.1 k) 1) (nn (B.1 k) 2) (nn (B.1 k) 3) (nn (B.1 k) 4) (ad (B.1 k) 2) (ad (B.1 k) 3) (ad (B.1 k) 4) (ad (B.1 k) 5) (nn (B.1 k) 5) (jj (B.1 k) 0) (rw' (B.1 k) 0) (rw' (B.1 k) 1) (rw' (B.1 k) 2) (rw' (B.1 k) 3) v9 hk (bG_at B.1 hk) (by first | assumption | omega) (by first | assumption | omega) (by first | assumption | omega)) hp ?_
  intro r u hu
  obtain ⟨v_n2, v_ah2, v_fb2, v_fw2, v_fk2, v_fd2, rfl, f_e, f_hn, f_ex⟩ := hu
  refine ⟨wB kA (uP B.1 k ((B.1 k).1, uP (B.1 k).2.1 5 v_n2, uP (B.1 k).2.2.1 0 v_ah2, uP (uP (uP (uP (B.1 k).2.2.2.1 0 v_fb2) 1 v_fw2) 2 v_fk2) 3 v_fd2, (B.1 k).2.2.2.2), B.2), pkB hk rfl (pm_places 25 [0, 1, 2, 3, 4, 5, 6, 7] [8, 9, 10, 11, 12, 13, 14, 15, 16, 17, 18, 19, 20, 21, 22, 23, 24] (by decide +kernel) rfl rfl rfl), ((B.1 k).1, uP (B.1 k).2.1 5 v_n2, uP (B.1 k).2.2.1 0 v_ah2, uP (uP (uP (uP (B.1 k).2.2.2.1 0 v_fb2) 1 v_fw2) 2 v_fk2) 3 v_fd2, (B.1 k).2.2.2.2), rfl, by rw [f_e, f_hn], ⟨TI_surf iT (by show v_n2 ≤ 400; omega) _ _ _ _ _, fun q hq => uP_ne _ _ hq, f_hn, by rw [← f_hn]; exact f_ex⟩⟩
abbrev wq_X6_mark_B : List Cond := wq_X6_mark
theorem gd_X6_mark_B : wq_X6_mark_B.all goodWord = true := gd_X6_mark
set_option maxHeartbeats 4000000 in
set_option maxRecDepth 100000 in
theorem c_X6_mark_B (l : Launch) (D : va_G) (kA : Nat → ClassId) (z : Nat) (B : BS) (be k : Nat) (hbe : B.2 0 = be) (hI : BI B) (hk : k < 4) (hroom : nn (B.1 k) 5 + 10 ≤ 400) : mI l D (tyL kA) z yX6_mark wq_X6_mark_B ({ frames := 3, cells := 0, slots := 0, locals := 67 }) [.ref be, .int (nI k)] (wB kA B) (fun r w => ∃ (S2 : TS), w = (wB kA (uP B.1 k S2, B.2)) ∧ (r = nI (nn (B.1 k) 5 + 10)) ∧ (wrS (B.1 k) S2 (nn (B.1 k) 5 + 10) (B.2 2)) ∧ (rw' S2 0 (nn (B.1 k) 5) = nI 1) ∧ (rw' S2 0 (nn (B.1 k) 5 + 4) = nI 0) ∧ (rw' S2 0 (nn (B.1 k) 5 + 9) = nI 1)) := by
  subst hbe
  have iT := hI.1 k hk
  obtain ⟨i0, i1, i4, i5, iv, ⟨ia0, ia1, ia2⟩, ⟨ib0, ib1, ib2⟩, ⟨ic0, ic1, ic2⟩, i6, ix, iy, iw, iP, iG, i10, i16, i9, i15, i3⟩ := id iT
  have iV := iT.vl4
  have iU := iT.un4
  have in7 := iP.1
  have in13 := iG.1
  have in8 : nn (B.1 k) 8 ≤ 8 := by rw [iP.2.2.1]; exact Nat.le_trans (cntG_le _ _) in7
  have in14 : nn (B.1 k) 14 ≤ 8 := by rw [iG.2.2.1]; exact Nat.le_trans (cntG_le _ _) in13
  have il12 := iP.2.2.2.1.2.1
  have il18 := iG.2.2.2.1.2.1
  have hp : (wB kA B).Perm ([((B.2 0), .inr (5, [.ref (B.2 1), .int (nI 4), .int (nI (B.2 2)), .int (nI (B.2 3)), .int (nI (B.2 4)), .int (nI (B.2 5)), .int (nI (B.2 6))])), ((B.2 1), .inl (kA 2, 4, .inr (.inr (.inr (.inr (bG B.1)))))), ((ad (B.1 k) 0), .inr (3, [.ref (ad (B.1 k) 1), .ref (ad (B.1 k) 6), .ref (ad (B.1 k) 8), .ref (ad (B.1 k) 11), .ref (ad (B.1 k) 14), .ref (ad (B.1 k) 17), .ref (ad (B.1 k) 20), .int (nI (nn (B.1 k) 0)), .int (nI (nn (B.1 k) 1)), .int (nI (nn (B.1 k) 2)), .int (nI (nn (B.1 k) 3)), .int (nI (nn (B.1 k) 4))])), ((ad (B.1 k) 1), .inr (2, [.ref (ad (B.1 k) 2), .ref (ad (B.1 k) 3), .ref (ad (B.1 k) 4), .ref (ad (B.1 k) 5), .int (nI (nn (B.1 k) 5)), .int (jj (B.1 k) 0)])), ((ad (B.1 k) 2), .inl (kA 0, 400, .inl (rw' (B.1 k) 0))), ((ad (B.1 k) 3), .inl (kA 0, 400, .inl (rw' (B.1 k) 1))), ((ad (B.1 k) 4), .inl (kA 1, 400, .inl (rw' (B.1 k) 2))), ((ad (B.1 k) 5), .inl (kA 0, 400, .inl (rw' (B.1 k) 3)))] ++ _) := pkA hk (pm_places 25 [0, 1, 2, 3, 4, 5, 6, 7] [8, 9, 10, 11, 12, 13, 14, 15, 16, 17, 18, 19, 20, 21, 22, 23, 24] (by decide +kernel) rfl rfl rfl)
  refine frI (c_X6_mark l D kA z (B.2 0) (B.2 1) 4 (B.2 2) (B.2 3) (B.2 4) (B.2 5) (B.2 6) k (bG B.1) (ad (B.1 k) 0) (ad (B.1 k) 1) (ad (B.1 k) 6) (ad (B.1 k) 8) (ad (B.1 k) 11) (ad (B.1 k) 14) (ad (B.1 k) 17) (ad (B.1 k) 20) (nn (B.1 k) 0) (nn (B.1 k) 1) (nn (B.1 k) 2) (nn (B.1 k) 3) (nn (B.1 k) 4) (ad (B.1 k) 2) (ad (B.1 k) 3) (ad (B.1 k) 4) (ad (B.1 k) 5) (nn (B.1 k) 5) (jj (B.1 k) 0) (rw' (B.1 k) 0) (rw' (B.1 k) 1) (rw' (B.1 k) 2) (rw' (B.1 k) 3) hk (bG_at B.1 hk) (by first | assumption | omega) (by first | assumption | omega)) hp ?_
  intro r u hu
  obtain ⟨v_n2, v_ah2, v_fb2, v_fw2, v_fk2, v_fd2, rfl, f_e, f_hn, f_ex, f_m0, f_m4, f_m9⟩ := hu
  refine ⟨wB kA (uP B.1 k ((B.1 k).1, uP (B.1 k).2.1 5 v_n2, uP (B.1 k).2.2.1 0 v_ah2, uP (uP (uP (uP (B.1 k).2.2.2.1 0 v_fb2) 1 v_fw2) 2 v_fk2) 3 v_fd2, (B.1 k).2.2.2.2), B.2), pkB hk rfl (pm_places 25 [0, 1, 2, 3, 4, 5, 6, 7] [8, 9, 10, 11, 12, 13, 14, 15, 16, 17, 18, 19, 20, 21, 22, 23, 24] (by decide +kernel) rfl rfl rfl), ((B.1 k).1, uP (B.1 k).2.1 5 v_n2, uP (B.1 k).2.2.1 0 v_ah2, uP (uP (uP (uP (B.1 k).2.2.2.1 0 v_fb2) 1 v_fw2) 2 v_fk2) 3 v_fd2, (B.1 k).2.2.2.2), rfl, by rw [f_e, f_hn], ⟨TI_surf iT (by show v_n2 ≤ 400; omega) _ _ _ _ _, fun q hq => uP_ne _ _ hq, f_hn, by rw [← f_hn]; exact f_ex⟩, f_m0, f_m4, f_m9⟩
abbrev wq_X6_sector_B : List Cond := wq_X6_sector
theorem gd_X6_sector_B : wq_X6_sector_B.all goodWord = true := gd_X6_sector
set_option maxHeartbeats 4000000 in
set_option maxRecDepth 100000 in
theorem c_X6_sector_B (l : Launch) (D : va_G) (kA : Nat → ClassId) (z : Nat) (B : BS) (be k : Nat) (nu kc da rt : Nat) (hbe : B.2 0 = be) (hI : BI B) (hk : k < 4) (hnu : nu ≤ 255) (hkc1 : 1 ≤ kc) (hkc4 : kc ≤ 4) (hda : da < 2 ^ 31) (hrt : rt ≤ 1) (hroom : nn (B.1 k) 5 + (11 + (kc + 3) * cB (nn (B.1 k) 0)) ≤ 400) : mI l D (tyL kA) z yX6_sector wq_X6_sector_B ({ frames := 4, cells := 0, slots := 0, locals := 101 }) [.ref be, .int (nI k), .int (nI nu), .int (nI kc), .int (nI da), .int (nI rt)] (wB kA B) (fun r w => ∃ (S2 : TS), w = (wB kA (uP B.1 k S2, B.2)) ∧ (r = nI (nn (B.1 k) 5 + 11 + (kc + 3) * cB (nn (B.1 k) 0))) ∧ (wrS (B.1 k) S2 (nn (B.1 k) 5 + 11 + (kc + 3) * cB (nn (B.1 k) 0)) (B.2 2)) ∧ (rw' S2 0 (nn (B.1 k) 5 + 11 + (kc + 3) * cB (nn (B.1 k) 0) - 1) = nI 1)) := by
  subst hbe
  have iT := hI.1 k hk
  obtain ⟨i0, i1, i4, i5, iv, ⟨ia0, ia1, ia2⟩, ⟨ib0, ib1, ib2⟩, ⟨ic0, ic1, ic2⟩, i6, ix, iy, iw, iP, iG, i10, i16, i9, i15, i3⟩ := id iT
  have iV := iT.vl4
  have iU := iT.un4
  have in7 := iP.1
  have in13 := iG.1
  have in8 : nn (B.1 k) 8 ≤ 8 := by rw [iP.2.2.1]; exact Nat.le_trans (cntG_le _ _) in7
  have in14 : nn (B.1 k) 14 ≤ 8 := by rw [iG.2.2.1]; exact Nat.le_trans (cntG_le _ _) in13
  have il12 := iP.2.2.2.1.2.1
  have il18 := iG.2.2.2.1.2.1
  have hp : (wB kA B).Perm ([((B.2 0), .inr (5, [.ref (B.2 1), .int (nI 4), .int (nI (B.2 2)), .int (nI (B.2 3)), .int (nI (B.2 4)), .int (nI (B.2 5)), .int (nI (B.2 6))])), ((B.2 1), .inl (kA 2, 4, .inr (.inr (.inr (.inr (bG B.1)))))), ((ad (B.1 k) 0), .inr (3, [.ref (ad (B.1 k) 1), .ref (ad (B.1 k) 6), .ref (ad (B.1 k) 8), .ref (ad (B.1 k) 11), .ref (ad (B.1 k) 14), .ref (ad (B.1 k) 17), .ref (ad (B.1 k) 20), .int (nI (nn (B.1 k) 0)), .int (nI (nn (B.1 k) 1)), .int (nI (nn (B.1 k) 2)), .int (nI (nn (B.1 k) 3)), .int (nI (nn (B.1 k) 4))])), ((ad (B.1 k) 1), .inr (2, [.ref (ad (B.1 k) 2), .ref (ad (B.1 k) 3), .ref (ad (B.1 k) 4), .ref (ad (B.1 k) 5), .int (nI (nn (B.1 k) 5)), .int (jj (B.1 k) 0)])), ((ad (B.1 k) 2), .inl (kA 0, 400, .inl (rw' (B.1 k) 0))), ((ad (B.1 k) 3), .inl (kA 0, 400, .inl (rw' (B.1 k) 1))), ((ad (B.1 k) 4), .inl (kA 1, 400, .inl (rw' (B.1 k) 2))), ((ad (B.1 k) 5), .inl (kA 0, 400, .inl (rw' (B.1 k) 3)))] ++ _) := pkA hk (pm_places 25 [0, 1, 2, 3, 4, 5, 6, 7] [8, 9, 10, 11, 12, 13, 14, 15, 16, 17, 18, 19, 20, 21, 22, 23, 24] (by decide +kernel) rfl rfl rfl)
  refine frI (c_X6_sector l D kA z (B.2 0) (B.2 1) 4 (B.2 2) (B.2 3) (B.2 4) (B.2 5) (B.2 6) k (bG B.1) (ad (B.1 k) 0) (ad (B.1 k) 1) (ad (B.1 k) 6) (ad (B.1 k) 8) (ad (B.1 k) 11) (ad (B.1 k) 14) (ad (B.1 k) 17) (ad (B.1 k) 20) (nn (B.1 k) 0) (nn (B.1 k) 1) (nn (B.1 k) 2) (nn (B.1 k) 3) (nn (B.1 k) 4) (ad (B.1 k) 2) (ad (B.1 k) 3) (ad (B.1 k) 4) (ad (B.1 k) 5) (nn (B.1 k) 5) (jj (B.1 k) 0) (rw' (B.1 k) 0) (rw' (B.1 k) 1) (rw' (B.1 k) 2) (rw' (B.1 k) 3) nu kc da rt hk (bG_at B.1 hk) (by first | assumption | omega) (by first | assumption | omega) (by first | assumption | omega) (by first | assumption | omega) (by first | assumption | omega) (by first | assumption | omega) (by first | assumption | omega)) hp ?_
  intro r u hu
  obtain ⟨v_n2, v_ah2, v_fb2, v_fw2, v_fk2, v_fd2, rfl, f_e, f_hn, f_ex, f_hl1⟩ := hu
  refine ⟨wB kA (uP B.1 k ((B.1 k).1, uP (B.1 k).2.1 5 v_n2, uP (B.1 k).2.2.1 0 v_ah2, uP (uP (uP (uP (B.1 k).2.2.2.1 0 v_fb2) 1 v_fw2) 2 v_fk2) 3 v_fd2, (B.1 k).2.2.2.2), B.2), pkB hk rfl (pm_places 25 [0, 1, 2, 3, 4, 5, 6, 7] [8, 9, 10, 11, 12, 13, 14, 15, 16, 17, 18, 19, 20, 21, 22, 23, 24] (by decide +kernel) rfl rfl rfl), ((B.1 k).1, uP (B.1 k).2.1 5 v_n2, uP (B.1 k).2.2.1 0 v_ah2, uP (uP (uP (uP (B.1 k).2.2.2.1 0 v_fb2) 1 v_fw2) 2 v_fk2) 3 v_fd2, (B.1 k).2.2.2.2), rfl, by rw [f_e, f_hn], ⟨TI_surf iT (by show v_n2 ≤ 400; omega) _ _ _ _ _, fun q hq => uP_ne _ _ hq, f_hn, by rw [← f_hn]; exact f_ex⟩, by rw [← f_hn]; exact f_hl1⟩
abbrev wq_X6_write_xB : List Cond := wq_X6_write_x
theorem gd_X6_write_xB : wq_X6_write_xB.all goodWord = true := gd_X6_write_x
set_option maxHeartbeats 4000000 in
set_option maxRecDepth 100000 in
theorem c_X6_write_xB (l : Launch) (D : va_G) (kA : Nat → ClassId) (z : Nat) (hfl : l.stackTraces = false) (B : BS) (be k : Nat) (v9 : Nat) (hbe : B.2 0 = be) (hI : BI B) (hk : k < 4) (hv9 : v9 ≤ 255) : xI l D (tyL kA) z yX6_write wq_X6_write_xB ({ frames := 7, cells := 1, slots := 6, locals := 111 }) [.ref be, .int (nI k), .int (nI v9)] (wB kA B) (fun r w => ∃ (S2 : TS), w = (wB kA (uP B.1 k S2, B.2)) ∧ (r = nI (nn (B.1 k) 5 + cB (nn (B.1 k) 0))) ∧ (wrS (B.1 k) S2 (nn (B.1 k) 5 + cB (nn (B.1 k) 0)) (B.2 2))) (fun E w => (E = "java/lang/IllegalStateException") ∧ w = (wB kA B)) := by
  subst hbe
  have iT := hI.1 k hk
  obtain ⟨i0, i1, i4, i5, iv, ⟨ia0, ia1, ia2⟩, ⟨ib0, ib1, ib2⟩, ⟨ic0, ic1, ic2⟩, i6, ix, iy, iw, iP, iG, i10, i16, i9, i15, i3⟩ := id iT
  have iV := iT.vl4
  have iU := iT.un4
  have in7 := iP.1
  have in13 := iG.1
  have in8 : nn (B.1 k) 8 ≤ 8 := by rw [iP.2.2.1]; exact Nat.le_trans (cntG_le _ _) in7
  have in14 : nn (B.1 k) 14 ≤ 8 := by rw [iG.2.2.1]; exact Nat.le_trans (cntG_le _ _) in13
  have il12 := iP.2.2.2.1.2.1
  have il18 := iG.2.2.2.1.2.1
  have hp : (wB kA B).Perm ([((B.2 0), .inr (5, [.ref (B.2 1), .int (nI 4), .int (nI (B.2 2)), .int (nI (B.2 3)), .int (nI (B.2 4)), .int (nI (B.2 5)), .int (nI (B.2 6))])), ((B.2 1), .inl (kA 2, 4, .inr (.inr (.inr (.inr (bG B.1)))))), ((ad (B.1 k) 0), .inr (3, [.ref (ad (B.1 k) 1), .ref (ad (B.1 k) 6), .ref (ad (B.1 k) 8), .ref (ad (B.1 k) 11), .ref (ad (B.1 k) 14), .ref (ad (B.1 k) 17), .ref (ad (B.1 k) 20), .int (nI (nn (B.1 k) 0)), .int (nI (nn (B.1 k) 1)), .int (nI (nn (B.1 k) 2)), .int (nI (nn (B.1 k) 3)), .int (nI (nn (B.1 k) 4))])), ((ad (B.1 k) 1), .inr (2, [.ref (ad (B.1 k) 2), .ref (ad (B.1 k) 3), .ref (ad (B.1 k) 4), .ref (ad (B.1 k) 5), .int (nI (nn (B.1 k) 5)), .int (jj (B.1 k) 0)])), ((ad (B.1 k) 2), .inl (kA 0, 400, .inl (rw' (B.1 k) 0))), ((ad (B.1 k) 3), .inl (kA 0, 400, .inl (rw' (B.1 k) 1))), ((ad (B.1 k) 4), .inl (kA 1, 400, .inl (rw' (B.1 k) 2))), ((ad (B.1 k) 5), .inl (kA 0, 400, .inl (rw' (B.1 k) 3)))] ++ _) := pkA hk (pm_places 25 [0, 1, 2, 3, 4, 5, 6, 7] [8, 9, 10, 11, 12, 13, 14, 15, 16, 17, 18, 19, 20, 21, 22, 23, 24] (by decide +kernel) rfl rfl rfl)
  refine frX (c_X6_write_x l D kA z hfl (B.2 0) (B.2 1) 4 (B.2 2) (B.2 3) (B.2 4) (B.2 5) (B.2 6) k (bG B.1) (ad (B.1 k) 0) (ad (B.1 k) 1) (ad (B.1 k) 6) (ad (B.1 k) 8) (ad (B.1 k) 11) (ad (B.1 k) 14) (ad (B.1 k) 17) (ad (B.1 k) 20) (nn (B.1 k) 0) (nn (B.1 k) 1) (nn (B.1 k) 2) (nn (B.1 k) 3) (nn (B.1 k) 4) (ad (B.1 k) 2) (ad (B.1 k) 3) (ad (B.1 k) 4) (ad (B.1 k) 5) (nn (B.1 k) 5) (jj (B.1 k) 0) (rw' (B.1 k) 0) (rw' (B.1 k) 1) (rw' (B.1 k) 2) (rw' (B.1 k) 3) v9 hk (bG_at B.1 hk) (by first | assumption | omega) (by first | assumption | omega) (by first | assumption | omega)) hp ?_
  intro r u hu
  obtain ⟨v_n2, v_ah2, v_fb2, v_fw2, v_fk2, v_fd2, rfl, f_e, f_hn, f_ex, f_hroom⟩ := hu
  refine ⟨wB kA (uP B.1 k ((B.1 k).1, uP (B.1 k).2.1 5 v_n2, uP (B.1 k).2.2.1 0 v_ah2, uP (uP (uP (uP (B.1 k).2.2.2.1 0 v_fb2) 1 v_fw2) 2 v_fk2) 3 v_fd2, (B.1 k).2.2.2.2), B.2), pkB hk rfl (pm_places 25 [0, 1, 2, 3, 4, 5, 6, 7] [8, 9, 10, 11, 12, 13, 14, 15, 16, 17, 18, 19, 20, 21, 22, 23, 24] (by decide +kernel) rfl rfl rfl), ((B.1 k).1, uP (B.1 k).2.1 5 v_n2, uP (B.1 k).2.2.1 0 v_ah2, uP (uP (uP (uP (B.1 k).2.2.2.1 0 v_fb2) 1 v_fw2) 2 v_fk2) 3 v_fd2, (B.1 k).2.2.2.2), rfl, by rw [f_e, f_hn], ⟨TI_surf iT (by show v_n2 ≤ 400; omega) _ _ _ _ _, fun q hq => uP_ne _ _ hq, f_hn, by rw [← f_hn]; exact f_ex⟩⟩
abbrev wq_X6_mark_xB : List Cond := wq_X6_mark_x
theorem gd_X6_mark_xB : wq_X6_mark_xB.all goodWord = true := gd_X6_mark_x
set_option maxHeartbeats 4000000 in
set_option maxRecDepth 100000 in
theorem c_X6_mark_xB (l : Launch) (D : va_G) (kA : Nat → ClassId) (z : Nat) (hfl : l.stackTraces = false) (B : BS) (be k : Nat) (hbe : B.2 0 = be) (hI : BI B) (hk : k < 4) : xI l D (tyL kA) z yX6_mark wq_X6_mark_xB ({ frames := 7, cells := 1, slots := 6, locals := 111 }) [.ref be, .int (nI k)] (wB kA B) (fun r w => ∃ (S2 : TS), w = (wB kA (uP B.1 k S2, B.2)) ∧ (r = nI (nn (B.1 k) 5 + 10)) ∧ (wrS (B.1 k) S2 (nn (B.1 k) 5 + 10) (B.2 2)) ∧ (rw' S2 0 (nn (B.1 k) 5) = nI 1) ∧ (rw' S2 0 (nn (B.1 k) 5 + 4) = nI 0) ∧ (rw' S2 0 (nn (B.1 k) 5 + 9) = nI 1)) (fun E w => (E = "java/lang/IllegalStateException") ∧ w = (wB kA B)) := by
  subst hbe
  have iT := hI.1 k hk
  obtain ⟨i0, i1, i4, i5, iv, ⟨ia0, ia1, ia2⟩, ⟨ib0, ib1, ib2⟩, ⟨ic0, ic1, ic2⟩, i6, ix, iy, iw, iP, iG, i10, i16, i9, i15, i3⟩ := id iT
  have iV := iT.vl4
  have iU := iT.un4
  have in7 := iP.1
  have in13 := iG.1
  have in8 : nn (B.1 k) 8 ≤ 8 := by rw [iP.2.2.1]; exact Nat.le_trans (cntG_le _ _) in7
  have in14 : nn (B.1 k) 14 ≤ 8 := by rw [iG.2.2.1]; exact Nat.le_trans (cntG_le _ _) in13
  have il12 := iP.2.2.2.1.2.1
  have il18 := iG.2.2.2.1.2.1
  have hp : (wB kA B).Perm ([((B.2 0), .inr (5, [.ref (B.2 1), .int (nI 4), .int (nI (B.2 2)), .int (nI (B.2 3)), .int (nI (B.2 4)), .int (nI (B.2 5)), .int (nI (B.2 6))])), ((B.2 1), .inl (kA 2, 4, .inr (.inr (.inr (.inr (bG B.1)))))), ((ad (B.1 k) 0), .inr (3, [.ref (ad (B.1 k) 1), .ref (ad (B.1 k) 6), .ref (ad (B.1 k) 8), .ref (ad (B.1 k) 11), .ref (ad (B.1 k) 14), .ref (ad (B.1 k) 17), .ref (ad (B.1 k) 20), .int (nI (nn (B.1 k) 0)), .int (nI (nn (B.1 k) 1)), .int (nI (nn (B.1 k) 2)), .int (nI (nn (B.1 k) 3)), .int (nI (nn (B.1 k) 4))])), ((ad (B.1 k) 1), .inr (2, [.ref (ad (B.1 k) 2), .ref (ad (B.1 k) 3), .ref (ad (B.1 k) 4), .ref (ad (B.1 k) 5), .int (nI (nn (B.1 k) 5)), .int (jj (B.1 k) 0)])), ((ad (B.1 k) 2), .inl (kA 0, 400, .inl (rw' (B.1 k) 0))), ((ad (B.1 k) 3), .inl (kA 0, 400, .inl (rw' (B.1 k) 1))), ((ad (B.1 k) 4), .inl (kA 1, 400, .inl (rw' (B.1 k) 2))), ((ad (B.1 k) 5), .inl (kA 0, 400, .inl (rw' (B.1 k) 3)))] ++ _) := pkA hk (pm_places 25 [0, 1, 2, 3, 4, 5, 6, 7] [8, 9, 10, 11, 12, 13, 14, 15, 16, 17, 18, 19, 20, 21, 22, 23, 24] (by decide +kernel) rfl rfl rfl)
  refine frX (c_X6_mark_x l D kA z hfl (B.2 0) (B.2 1) 4 (B.2 2) (B.2 3) (B.2 4) (B.2 5) (B.2 6) k (bG B.1) (ad (B.1 k) 0) (ad (B.1 k) 1) (ad (B.1 k) 6) (ad (B.1 k) 8) (ad (B.1 k) 11) (ad (B.1 k) 14) (ad (B.1 k) 17) (ad (B.1 k) 20) (nn (B.1 k) 0) (nn (B.1 k) 1) (nn (B.1 k) 2) (nn (B.1 k) 3) (nn (B.1 k) 4) (ad (B.1 k) 2) (ad (B.1 k) 3) (ad (B.1 k) 4) (ad (B.1 k) 5) (nn (B.1 k) 5) (jj (B.1 k) 0) (rw' (B.1 k) 0) (rw' (B.1 k) 1) (rw' (B.1 k) 2) (rw' (B.1 k) 3) hk (bG_at B.1 hk) (by first | assumption | omega) (by first | assumption | omega)) hp ?_
  intro r u hu
  obtain ⟨v_n2, v_ah2, v_fb2, v_fw2, v_fk2, v_fd2, rfl, f_e, f_hn, f_ex, f_m0, f_m4, f_m9, f_hroom⟩ := hu
  refine ⟨wB kA (uP B.1 k ((B.1 k).1, uP (B.1 k).2.1 5 v_n2, uP (B.1 k).2.2.1 0 v_ah2, uP (uP (uP (uP (B.1 k).2.2.2.1 0 v_fb2) 1 v_fw2) 2 v_fk2) 3 v_fd2, (B.1 k).2.2.2.2), B.2), pkB hk rfl (pm_places 25 [0, 1, 2, 3, 4, 5, 6, 7] [8, 9, 10, 11, 12, 13, 14, 15, 16, 17, 18, 19, 20, 21, 22, 23, 24] (by decide +kernel) rfl rfl rfl), ((B.1 k).1, uP (B.1 k).2.1 5 v_n2, uP (B.1 k).2.2.1 0 v_ah2, uP (uP (uP (uP (B.1 k).2.2.2.1 0 v_fb2) 1 v_fw2) 2 v_fk2) 3 v_fd2, (B.1 k).2.2.2.2), rfl, by rw [f_e, f_hn], ⟨TI_surf iT (by show v_n2 ≤ 400; omega) _ _ _ _ _, fun q hq => uP_ne _ _ hq, f_hn, by rw [← f_hn]; exact f_ex⟩, f_m0, f_m4, f_m9⟩
abbrev wq_X6_sector_xB : List Cond := wq_X6_sector_x
theorem gd_X6_sector_xB : wq_X6_sector_xB.all goodWord = true := gd_X6_sector_x
set_option maxHeartbeats 4000000 in
set_option maxRecDepth 100000 in
theorem c_X6_sector_xB (l : Launch) (D : va_G) (kA : Nat → ClassId) (z : Nat) (hfl : l.stackTraces = false) (B : BS) (be k : Nat) (nu kc da rt : Nat) (hbe : B.2 0 = be) (hI : BI B) (hk : k < 4) (hnu : nu ≤ 255) (hkc1 : 1 ≤ kc) (hkc4 : kc ≤ 4) (hda : da < 2 ^ 31) (hrt : rt ≤ 1) : xI l D (tyL kA) z yX6_sector wq_X6_sector_xB ({ frames := 7, cells := 1, slots := 6, locals := 111 }) [.ref be, .int (nI k), .int (nI nu), .int (nI kc), .int (nI da), .int (nI rt)] (wB kA B) (fun r w => ∃ (S2 : TS), w = (wB kA (uP B.1 k S2, B.2)) ∧ (r = nI (nn (B.1 k) 5 + 11 + (kc + 3) * cB (nn (B.1 k) 0))) ∧ (wrS (B.1 k) S2 (nn (B.1 k) 5 + 11 + (kc + 3) * cB (nn (B.1 k) 0)) (B.2 2)) ∧ (rw' S2 0 (nn (B.1 k) 5 + 11 + (kc + 3) * cB (nn (B.1 k) 0) - 1) = nI 1)) (fun E w => (E = "java/lang/IllegalStateException") ∧ w = (wB kA B)) := by
  subst hbe
  have iT := hI.1 k hk
  obtain ⟨i0, i1, i4, i5, iv, ⟨ia0, ia1, ia2⟩, ⟨ib0, ib1, ib2⟩, ⟨ic0, ic1, ic2⟩, i6, ix, iy, iw, iP, iG, i10, i16, i9, i15, i3⟩ := id iT
  have iV := iT.vl4
  have iU := iT.un4
  have in7 := iP.1
  have in13 := iG.1
  have in8 : nn (B.1 k) 8 ≤ 8 := by rw [iP.2.2.1]; exact Nat.le_trans (cntG_le _ _) in7
  have in14 : nn (B.1 k) 14 ≤ 8 := by rw [iG.2.2.1]; exact Nat.le_trans (cntG_le _ _) in13
  have il12 := iP.2.2.2.1.2.1
  have il18 := iG.2.2.2.1.2.1
  have hp : (wB kA B).Perm ([((B.2 0), .inr (5, [.ref (B.2 1), .int (nI 4), .int (nI (B.2 2)), .int (nI (B.2 3)), .int (nI (B.2 4)), .int (nI (B.2 5)), .int (nI (B.2 6))])), ((B.2 1), .inl (kA 2, 4, .inr (.inr (.inr (.inr (bG B.1)))))), ((ad (B.1 k) 0), .inr (3, [.ref (ad (B.1 k) 1), .ref (ad (B.1 k) 6), .ref (ad (B.1 k) 8), .ref (ad (B.1 k) 11), .ref (ad (B.1 k) 14), .ref (ad (B.1 k) 17), .ref (ad (B.1 k) 20), .int (nI (nn (B.1 k) 0)), .int (nI (nn (B.1 k) 1)), .int (nI (nn (B.1 k) 2)), .int (nI (nn (B.1 k) 3)), .int (nI (nn (B.1 k) 4))])), ((ad (B.1 k) 1), .inr (2, [.ref (ad (B.1 k) 2), .ref (ad (B.1 k) 3), .ref (ad (B.1 k) 4), .ref (ad (B.1 k) 5), .int (nI (nn (B.1 k) 5)), .int (jj (B.1 k) 0)])), ((ad (B.1 k) 2), .inl (kA 0, 400, .inl (rw' (B.1 k) 0))), ((ad (B.1 k) 3), .inl (kA 0, 400, .inl (rw' (B.1 k) 1))), ((ad (B.1 k) 4), .inl (kA 1, 400, .inl (rw' (B.1 k) 2))), ((ad (B.1 k) 5), .inl (kA 0, 400, .inl (rw' (B.1 k) 3)))] ++ _) := pkA hk (pm_places 25 [0, 1, 2, 3, 4, 5, 6, 7] [8, 9, 10, 11, 12, 13, 14, 15, 16, 17, 18, 19, 20, 21, 22, 23, 24] (by decide +kernel) rfl rfl rfl)
  refine frX (c_X6_sector_x l D kA z hfl (B.2 0) (B.2 1) 4 (B.2 2) (B.2 3) (B.2 4) (B.2 5) (B.2 6) k (bG B.1) (ad (B.1 k) 0) (ad (B.1 k) 1) (ad (B.1 k) 6) (ad (B.1 k) 8) (ad (B.1 k) 11) (ad (B.1 k) 14) (ad (B.1 k) 17) (ad (B.1 k) 20) (nn (B.1 k) 0) (nn (B.1 k) 1) (nn (B.1 k) 2) (nn (B.1 k) 3) (nn (B.1 k) 4) (ad (B.1 k) 2) (ad (B.1 k) 3) (ad (B.1 k) 4) (ad (B.1 k) 5) (nn (B.1 k) 5) (jj (B.1 k) 0) (rw' (B.1 k) 0) (rw' (B.1 k) 1) (rw' (B.1 k) 2) (rw' (B.1 k) 3) nu kc da rt hk (bG_at B.1 hk) (by first | assumption | omega) (by first | assumption | omega) (by first | assumption | omega) (by first | assumption | omega) (by first | assumption | omega) (by first | assumption | omega) (by first | assumption | omega)) hp ?_
  intro r u hu
  obtain ⟨v_n2, v_ah2, v_fb2, v_fw2, v_fk2, v_fd2, rfl, f_e, f_hn, f_ex, f_hl1, f_hroom⟩ := hu
  refine ⟨wB kA (uP B.1 k ((B.1 k).1, uP (B.1 k).2.1 5 v_n2, uP (B.1 k).2.2.1 0 v_ah2, uP (uP (uP (uP (B.1 k).2.2.2.1 0 v_fb2) 1 v_fw2) 2 v_fk2) 3 v_fd2, (B.1 k).2.2.2.2), B.2), pkB hk rfl (pm_places 25 [0, 1, 2, 3, 4, 5, 6, 7] [8, 9, 10, 11, 12, 13, 14, 15, 16, 17, 18, 19, 20, 21, 22, 23, 24] (by decide +kernel) rfl rfl rfl), ((B.1 k).1, uP (B.1 k).2.1 5 v_n2, uP (B.1 k).2.2.1 0 v_ah2, uP (uP (uP (uP (B.1 k).2.2.2.1 0 v_fb2) 1 v_fw2) 2 v_fk2) 3 v_fd2, (B.1 k).2.2.2.2), rfl, by rw [f_e, f_hn], ⟨TI_surf iT (by show v_n2 ≤ 400; omega) _ _ _ _ _, fun q hq => uP_ne _ _ hq, f_hn, by rw [← f_hn]; exact f_ex⟩, by rw [← f_hn]; exact f_hl1⟩
abbrev wq_X6_weak_B : List Cond := wq_X6_weak
theorem gd_X6_weak_B : wq_X6_weak_B.all goodWord = true := gd_X6_weak
set_option maxHeartbeats 4000000 in
set_option maxRecDepth 100000 in
theorem c_X6_weak_B (l : Launch) (D : va_G) (kA : Nat → ClassId) (z : Nat) (B : BS) (be k : Nat) (i b : Nat) (hbe : B.2 0 = be) (hI : BI B) (hk : k < 4) (hi : i < nn (B.1 k) 5) (hb9 : b ≤ 1) : mI l D (tyL kA) z yX6_weak wq_X6_weak_B ({ frames := 2, cells := 0, slots := 0, locals := 43 }) [.ref be, .int (nI k), .int (nI i), .int (nI b)] (wB kA B) (fun r w => ∃ (S2 : TS) (wb : Nat), w = (wB kA (uP B.1 k S2, B.2)) ∧ (wb ≤ 1) ∧ (r = nI wb) ∧ (wb = if rw' (B.1 k) 2 i = nI 0 then 0 else 1) ∧ (wkS (B.1 k) S2 i b)) := by
  subst hbe
  have iT := hI.1 k hk
  obtain ⟨i0, i1, i4, i5, iv, ⟨ia0, ia1, ia2⟩, ⟨ib0, ib1, ib2⟩, ⟨ic0, ic1, ic2⟩, i6, ix, iy, iw, iP, iG, i10, i16, i9, i15, i3⟩ := id iT
  have iV := iT.vl4
  have iU := iT.un4
  have in7 := iP.1
  have in13 := iG.1
  have in8 : nn (B.1 k) 8 ≤ 8 := by rw [iP.2.2.1]; exact Nat.le_trans (cntG_le _ _) in7
  have in14 : nn (B.1 k) 14 ≤ 8 := by rw [iG.2.2.1]; exact Nat.le_trans (cntG_le _ _) in13
  have il12 := iP.2.2.2.1.2.1
  have il18 := iG.2.2.2.1.2.1
  have hp : (wB kA B).Perm ([((B.2 0), .inr (5, [.ref (B.2 1), .int (nI 4), .int (nI (B.2 2)), .int (nI (B.2 3)), .int (nI (B.2 4)), .int (nI (B.2 5)), .int (nI (B.2 6))])), ((B.2 1), .inl (kA 2, 4, .inr (.inr (.inr (.inr (bG B.1)))))), ((ad (B.1 k) 0), .inr (3, [.ref (ad (B.1 k) 1), .ref (ad (B.1 k) 6), .ref (ad (B.1 k) 8), .ref (ad (B.1 k) 11), .ref (ad (B.1 k) 14), .ref (ad (B.1 k) 17), .ref (ad (B.1 k) 20), .int (nI (nn (B.1 k) 0)), .int (nI (nn (B.1 k) 1)), .int (nI (nn (B.1 k) 2)), .int (nI (nn (B.1 k) 3)), .int (nI (nn (B.1 k) 4))])), ((ad (B.1 k) 1), .inr (2, [.ref (ad (B.1 k) 2), .ref (ad (B.1 k) 3), .ref (ad (B.1 k) 4), .ref (ad (B.1 k) 5), .int (nI (nn (B.1 k) 5)), .int (jj (B.1 k) 0)])), ((ad (B.1 k) 2), .inl (kA 0, 400, .inl (rw' (B.1 k) 0))), ((ad (B.1 k) 3), .inl (kA 0, 400, .inl (rw' (B.1 k) 1))), ((ad (B.1 k) 4), .inl (kA 1, 400, .inl (rw' (B.1 k) 2))), ((ad (B.1 k) 5), .inl (kA 0, 400, .inl (rw' (B.1 k) 3)))] ++ _) := pkA hk (pm_places 25 [0, 1, 2, 3, 4, 5, 6, 7] [8, 9, 10, 11, 12, 13, 14, 15, 16, 17, 18, 19, 20, 21, 22, 23, 24] (by decide +kernel) rfl rfl rfl)
  refine frI (c_X6_weak l D kA z (B.2 0) (B.2 1) 4 (B.2 2) (B.2 3) (B.2 4) (B.2 5) (B.2 6) k (bG B.1) (ad (B.1 k) 0) (ad (B.1 k) 1) (ad (B.1 k) 6) (ad (B.1 k) 8) (ad (B.1 k) 11) (ad (B.1 k) 14) (ad (B.1 k) 17) (ad (B.1 k) 20) (nn (B.1 k) 0) (nn (B.1 k) 1) (nn (B.1 k) 2) (nn (B.1 k) 3) (nn (B.1 k) 4) (ad (B.1 k) 2) (ad (B.1 k) 3) (ad (B.1 k) 4) (ad (B.1 k) 5) (nn (B.1 k) 5) (jj (B.1 k) 0) (rw' (B.1 k) 0) (rw' (B.1 k) 1) (rw' (B.1 k) 2) (rw' (B.1 k) 3) i b hk (bG_at B.1 hk) (by first | assumption | omega) (by first | assumption | omega) (by first | assumption | omega)) hp ?_
  intro r u hu
  obtain ⟨v_wb, rfl, f_hw1, f_e, f_hw2⟩ := hu
  exact ⟨wB kA (uP B.1 k ((B.1 k).1, (B.1 k).2.1, (B.1 k).2.2.1, uP (B.1 k).2.2.2.1 2 (upd (rw' (B.1 k) 2) i (nI b)), (B.1 k).2.2.2.2), B.2), pkB hk rfl (pm_places 25 [0, 1, 2, 3, 4, 5, 6, 7] [8, 9, 10, 11, 12, 13, 14, 15, 16, 17, 18, 19, 20, 21, 22, 23, 24] (by decide +kernel) rfl rfl rfl), ((B.1 k).1, (B.1 k).2.1, (B.1 k).2.2.1, uP (B.1 k).2.2.2.1 2 (upd (rw' (B.1 k) 2) i (nI b)), (B.1 k).2.2.2.2), v_wb, rfl, f_hw1, f_e, f_hw2, TI_row iT 2 (by decide) _, rfl, rfl, rfl⟩
abbrev wq_X6_dirt_B : List Cond := wq_X6_dirt
theorem gd_X6_dirt_B : wq_X6_dirt_B.all goodWord = true := gd_X6_dirt
set_option maxHeartbeats 4000000 in
set_option maxRecDepth 100000 in
theorem c_X6_dirt_B (l : Launch) (D : va_G) (kA : Nat → ClassId) (z : Nat) (B : BS) (be k : Nat) (p0 p1 : Nat) (hbe : B.2 0 = be) (hI : BI B) (hk : k < 4) (h0n : p0 < nn (B.1 k) 5) (h1n : p1 < nn (B.1 k) 5) (h01 : p0 ≤ p1) : mI l D (tyL kA) z yX6_dirt wq_X6_dirt_B ({ frames := 4, cells := 0, slots := 0, locals := 88 }) [.ref be, .int (nI k), .int (nI p0), .int (nI p1)] (wB kA B) (fun r w => ∃ (S2 : TS), w = (wB kA (uP B.1 k S2, B.2)) ∧ (r = nI (cntT (rw' S2 3) 1 (nn (B.1 k) 5))) ∧ (diS (B.1 k) S2 p0 p1)) := by
  subst hbe
  have iT := hI.1 k hk
  obtain ⟨i0, i1, i4, i5, iv, ⟨ia0, ia1, ia2⟩, ⟨ib0, ib1, ib2⟩, ⟨ic0, ic1, ic2⟩, i6, ix, iy, iw, iP, iG, i10, i16, i9, i15, i3⟩ := id iT
  have iV := iT.vl4
  have iU := iT.un4
  have in7 := iP.1
  have in13 := iG.1
  have in8 : nn (B.1 k) 8 ≤ 8 := by rw [iP.2.2.1]; exact Nat.le_trans (cntG_le _ _) in7
  have in14 : nn (B.1 k) 14 ≤ 8 := by rw [iG.2.2.1]; exact Nat.le_trans (cntG_le _ _) in13
  have il12 := iP.2.2.2.1.2.1
  have il18 := iG.2.2.2.1.2.1
  have hp : (wB kA B).Perm ([((B.2 0), .inr (5, [.ref (B.2 1), .int (nI 4), .int (nI (B.2 2)), .int (nI (B.2 3)), .int (nI (B.2 4)), .int (nI (B.2 5)), .int (nI (B.2 6))])), ((B.2 1), .inl (kA 2, 4, .inr (.inr (.inr (.inr (bG B.1)))))), ((ad (B.1 k) 0), .inr (3, [.ref (ad (B.1 k) 1), .ref (ad (B.1 k) 6), .ref (ad (B.1 k) 8), .ref (ad (B.1 k) 11), .ref (ad (B.1 k) 14), .ref (ad (B.1 k) 17), .ref (ad (B.1 k) 20), .int (nI (nn (B.1 k) 0)), .int (nI (nn (B.1 k) 1)), .int (nI (nn (B.1 k) 2)), .int (nI (nn (B.1 k) 3)), .int (nI (nn (B.1 k) 4))])), ((ad (B.1 k) 1), .inr (2, [.ref (ad (B.1 k) 2), .ref (ad (B.1 k) 3), .ref (ad (B.1 k) 4), .ref (ad (B.1 k) 5), .int (nI (nn (B.1 k) 5)), .int (jj (B.1 k) 0)])), ((ad (B.1 k) 2), .inl (kA 0, 400, .inl (rw' (B.1 k) 0))), ((ad (B.1 k) 3), .inl (kA 0, 400, .inl (rw' (B.1 k) 1))), ((ad (B.1 k) 4), .inl (kA 1, 400, .inl (rw' (B.1 k) 2))), ((ad (B.1 k) 5), .inl (kA 0, 400, .inl (rw' (B.1 k) 3)))] ++ _) := pkA hk (pm_places 25 [0, 1, 2, 3, 4, 5, 6, 7] [8, 9, 10, 11, 12, 13, 14, 15, 16, 17, 18, 19, 20, 21, 22, 23, 24] (by decide +kernel) rfl rfl rfl)
  refine frI (c_X6_dirt l D kA z (B.2 0) (B.2 1) 4 (B.2 2) (B.2 3) (B.2 4) (B.2 5) (B.2 6) k (bG B.1) (ad (B.1 k) 0) (ad (B.1 k) 1) (ad (B.1 k) 6) (ad (B.1 k) 8) (ad (B.1 k) 11) (ad (B.1 k) 14) (ad (B.1 k) 17) (ad (B.1 k) 20) (nn (B.1 k) 0) (nn (B.1 k) 1) (nn (B.1 k) 2) (nn (B.1 k) 3) (nn (B.1 k) 4) (ad (B.1 k) 2) (ad (B.1 k) 3) (ad (B.1 k) 4) (ad (B.1 k) 5) (nn (B.1 k) 5) (jj (B.1 k) 0) (rw' (B.1 k) 0) (rw' (B.1 k) 1) (rw' (B.1 k) 2) (rw' (B.1 k) 3) p0 p1 hk (bG_at B.1 hk) (by first | assumption | omega) (by first | assumption | omega) (by first | assumption | omega) (by first | assumption | omega)) hp ?_
  intro r u hu
  obtain ⟨v_fd2, rfl, f_e, f_hd⟩ := hu
  exact ⟨wB kA (uP B.1 k ((B.1 k).1, (B.1 k).2.1, (B.1 k).2.2.1, uP (B.1 k).2.2.2.1 3 (v_fd2), (B.1 k).2.2.2.2), B.2), pkB hk rfl (pm_places 25 [0, 1, 2, 3, 4, 5, 6, 7] [8, 9, 10, 11, 12, 13, 14, 15, 16, 17, 18, 19, 20, 21, 22, 23, 24] (by decide +kernel) rfl rfl rfl), ((B.1 k).1, (B.1 k).2.1, (B.1 k).2.2.1, uP (B.1 k).2.2.2.1 3 (v_fd2), (B.1 k).2.2.2.2), rfl, f_e, TI_row iT 3 (by decide) _, rfl, f_hd⟩
abbrev wq_X6_clean_B : List Cond := wq_X6_clean
theorem gd_X6_clean_B : wq_X6_clean_B.all goodWord = true := gd_X6_clean
set_option maxHeartbeats 4000000 in
set_option maxRecDepth 100000 in
theorem c_X6_clean_B (l : Launch) (D : va_G) (kA : Nat → ClassId) (z : Nat) (B : BS) (be k : Nat) (hbe : B.2 0 = be) (hI : BI B) (hk : k < 4) : mI l D (tyL kA) z yX6_clean wq_X6_clean_B ({ frames := 4, cells := 0, slots := 0, locals := 88 }) [.ref be, .int (nI k)] (wB kA B) (fun r w => ∃ (S2 : TS), w = (wB kA (uP B.1 k S2, B.2)) ∧ (r = nI (cntT (rw' S2 3) 2 (nn (B.1 k) 5))) ∧ (clS (B.1 k) S2)) := by
  subst hbe
  have iT := hI.1 k hk
  obtain ⟨i0, i1, i4, i5, iv, ⟨ia0, ia1, ia2⟩, ⟨ib0, ib1, ib2⟩, ⟨ic0, ic1, ic2⟩, i6, ix, iy, iw, iP, iG, i10, i16, i9, i15, i3⟩ := id iT
  have iV := iT.vl4
  have iU := iT.un4
  have in7 := iP.1
  have in13 := iG.1
  have in8 : nn (B.1 k) 8 ≤ 8 := by rw [iP.2.2.1]; exact Nat.le_trans (cntG_le _ _) in7
  have in14 : nn (B.1 k) 14 ≤ 8 := by rw [iG.2.2.1]; exact Nat.le_trans (cntG_le _ _) in13
  have il12 := iP.2.2.2.1.2.1
  have il18 := iG.2.2.2.1.2.1
  have hp : (wB kA B).Perm ([((B.2 0), .inr (5, [.ref (B.2 1), .int (nI 4), .int (nI (B.2 2)), .int (nI (B.2 3)), .int (nI (B.2 4)), .int (nI (B.2 5)), .int (nI (B.2 6))])), ((B.2 1), .inl (kA 2, 4, .inr (.inr (.inr (.inr (bG B.1)))))), ((ad (B.1 k) 0), .inr (3, [.ref (ad (B.1 k) 1), .ref (ad (B.1 k) 6), .ref (ad (B.1 k) 8), .ref (ad (B.1 k) 11), .ref (ad (B.1 k) 14), .ref (ad (B.1 k) 17), .ref (ad (B.1 k) 20), .int (nI (nn (B.1 k) 0)), .int (nI (nn (B.1 k) 1)), .int (nI (nn (B.1 k) 2)), .int (nI (nn (B.1 k) 3)), .int (nI (nn (B.1 k) 4))])), ((ad (B.1 k) 1), .inr (2, [.ref (ad (B.1 k) 2), .ref (ad (B.1 k) 3), .ref (ad (B.1 k) 4), .ref (ad (B.1 k) 5), .int (nI (nn (B.1 k) 5)), .int (jj (B.1 k) 0)])), ((ad (B.1 k) 2), .inl (kA 0, 400, .inl (rw' (B.1 k) 0))), ((ad (B.1 k) 3), .inl (kA 0, 400, .inl (rw' (B.1 k) 1))), ((ad (B.1 k) 4), .inl (kA 1, 400, .inl (rw' (B.1 k) 2))), ((ad (B.1 k) 5), .inl (kA 0, 400, .inl (rw' (B.1 k) 3)))] ++ _) := pkA hk (pm_places 25 [0, 1, 2, 3, 4, 5, 6, 7] [8, 9, 10, 11, 12, 13, 14, 15, 16, 17, 18, 19, 20, 21, 22, 23, 24] (by decide +kernel) rfl rfl rfl)
  refine frI (c_X6_clean l D kA z (B.2 0) (B.2 1) 4 (B.2 2) (B.2 3) (B.2 4) (B.2 5) (B.2 6) k (bG B.1) (ad (B.1 k) 0) (ad (B.1 k) 1) (ad (B.1 k) 6) (ad (B.1 k) 8) (ad (B.1 k) 11) (ad (B.1 k) 14) (ad (B.1 k) 17) (ad (B.1 k) 20) (nn (B.1 k) 0) (nn (B.1 k) 1) (nn (B.1 k) 2) (nn (B.1 k) 3) (nn (B.1 k) 4) (ad (B.1 k) 2) (ad (B.1 k) 3) (ad (B.1 k) 4) (ad (B.1 k) 5) (nn (B.1 k) 5) (jj (B.1 k) 0) (rw' (B.1 k) 0) (rw' (B.1 k) 1) (rw' (B.1 k) 2) (rw' (B.1 k) 3) hk (bG_at B.1 hk) (by first | assumption | omega)) hp ?_
  intro r u hu
  obtain ⟨v_fd2, rfl, f_e, f_hd⟩ := hu
  exact ⟨wB kA (uP B.1 k ((B.1 k).1, (B.1 k).2.1, (B.1 k).2.2.1, uP (B.1 k).2.2.2.1 3 (v_fd2), (B.1 k).2.2.2.2), B.2), pkB hk rfl (pm_places 25 [0, 1, 2, 3, 4, 5, 6, 7] [8, 9, 10, 11, 12, 13, 14, 15, 16, 17, 18, 19, 20, 21, 22, 23, 24] (by decide +kernel) rfl rfl rfl), ((B.1 k).1, (B.1 k).2.1, (B.1 k).2.2.1, uP (B.1 k).2.2.2.1 3 (v_fd2), (B.1 k).2.2.2.2), rfl, f_e, TI_row iT 3 (by decide) _, rfl, f_hd⟩
abbrev wq_X6_read_B : List Cond := wq_X6_read
theorem gd_X6_read_B : wq_X6_read_B.all goodWord = true := gd_X6_read
set_option maxHeartbeats 4000000 in
set_option maxRecDepth 100000 in
theorem c_X6_read_B (l : Launch) (D : va_G) (kA : Nat → ClassId) (z : Nat) (B : BS) (be k : Nat) (hbe : B.2 0 = be) (hI : BI B) (hk : k < 4) (hn0 : 0 < nn (B.1 k) 5) : mI l D (tyL kA) z yX6_read wq_X6_read_B ({ frames := 7, cells := 0, slots := 0, locals := 193 }) [.ref be, .int (nI k)] (wB kA B) (fun r w => ∃ (S2 : TS) (dw2 : Nat), w = (wB kA (uP B.1 k S2, uP (uP B.2 3 dw2) 4 (B.2 4 + 1))) ∧ (r = nI (lenF S2 (nn S2 1 - 1))) ∧ (dw2 ≤ 15) ∧ (rdS (B.1 k) S2)) := by
  subst hbe
  have iT := hI.1 k hk
  obtain ⟨i0, i1, i4, i5, iv, ⟨ia0, ia1, ia2⟩, ⟨ib0, ib1, ib2⟩, ⟨ic0, ic1, ic2⟩, i6, ix, iy, iw, iP, iG, i10, i16, i9, i15, i3⟩ := id iT
  have iV := iT.vl4
  have iU := iT.un4
  have in7 := iP.1
  have in13 := iG.1
  have in8 : nn (B.1 k) 8 ≤ 8 := by rw [iP.2.2.1]; exact Nat.le_trans (cntG_le _ _) in7
  have in14 : nn (B.1 k) 14 ≤ 8 := by rw [iG.2.2.1]; exact Nat.le_trans (cntG_le _ _) in13
  have il12 := iP.2.2.2.1.2.1
  have il18 := iG.2.2.2.1.2.1
  have hp : (wB kA B).Perm ([((B.2 0), .inr (5, [.ref (B.2 1), .int (nI 4), .int (nI (B.2 2)), .int (nI (B.2 3)), .int (nI (B.2 4)), .int (nI (B.2 5)), .int (nI (B.2 6))])), ((B.2 1), .inl (kA 2, 4, .inr (.inr (.inr (.inr (bG B.1)))))), ((ad (B.1 k) 0), .inr (3, [.ref (ad (B.1 k) 1), .ref (ad (B.1 k) 6), .ref (ad (B.1 k) 8), .ref (ad (B.1 k) 11), .ref (ad (B.1 k) 14), .ref (ad (B.1 k) 17), .ref (ad (B.1 k) 20), .int (nI (nn (B.1 k) 0)), .int (nI (nn (B.1 k) 1)), .int (nI (nn (B.1 k) 2)), .int (nI (nn (B.1 k) 3)), .int (nI (nn (B.1 k) 4))])), ((ad (B.1 k) 1), .inr (2, [.ref (ad (B.1 k) 2), .ref (ad (B.1 k) 3), .ref (ad (B.1 k) 4), .ref (ad (B.1 k) 5), .int (nI (nn (B.1 k) 5)), .int (jj (B.1 k) 0)])), ((ad (B.1 k) 2), .inl (kA 0, 400, .inl (rw' (B.1 k) 0))), ((ad (B.1 k) 3), .inl (kA 0, 400, .inl (rw' (B.1 k) 1))), ((ad (B.1 k) 4), .inl (kA 1, 400, .inl (rw' (B.1 k) 2))), ((ad (B.1 k) 5), .inl (kA 0, 400, .inl (rw' (B.1 k) 3))), ((ad (B.1 k) 6), .inr (1, [.ref (ad (B.1 k) 7), .int (nI (nn (B.1 k) 6)), .int (jj (B.1 k) 1)])), ((ad (B.1 k) 7), .inl (kA 0, 400, .inl (rw' (B.1 k) 4))), ((ad (B.1 k) 8), .inr (0, [.int (nI 1), .ref (ad (B.1 k) 9), .ref (ad (B.1 k) 10), .int (nI (nn (B.1 k) 7)), .int (nI (nn (B.1 k) 8)), .int (nI (nn (B.1 k) 9)), .int (nI (nn (B.1 k) 10)), .int (nI (nn (B.1 k) 11)), .int (nI (nn (B.1 k) 12))])), ((ad (B.1 k) 9), .inl (kA 0, 72, .inl (rw' (B.1 k) 5))), ((ad (B.1 k) 10), .inl (kA 0, 8, .inl (rw' (B.1 k) 6))), ((ad (B.1 k) 11), .inr (0, [.int (nI 2), .ref (ad (B.1 k) 12), .ref (ad (B.1 k) 13), .int (nI (nn (B.1 k) 13)), .int (nI (nn (B.1 k) 14)), .int (nI (nn (B.1 k) 15)), .int (nI (nn (B.1 k) 16)), .int (nI (nn (B.1 k) 17)), .int (nI (nn (B.1 k) 18))])), ((ad (B.1 k) 12), .inl (kA 0, 72, .inl (rw' (B.1 k) 7))), ((ad (B.1 k) 13), .inl (kA 0, 8, .inl (rw' (B.1 k) 8))), ((ad (B.1 k) 14), .inr (4, [.ref (ad (B.1 k) 15), .double (pp (B.1 k) 0)])), ((ad (B.1 k) 15), .inr (1, [.ref (ad (B.1 k) 16), .int (nI (nn (B.1 k) 19)), .int (jj (B.1 k) 2)])), ((ad (B.1 k) 16), .inl (kA 0, 400, .inl (rw' (B.1 k) 9))), ((ad (B.1 k) 17), .inr (4, [.ref (ad (B.1 k) 18), .double (pp (B.1 k) 1)])), ((ad (B.1 k) 18), .inr (1, [.ref (ad (B.1 k) 19), .int (nI (nn (B.1 k) 20)), .int (jj (B.1 k) 3)])), ((ad (B.1 k) 19), .inl (kA 0, 400, .inl (rw' (B.1 k) 10))), ((ad (B.1 k) 20), .inr (4, [.ref (ad (B.1 k) 21), .double (pp (B.1 k) 2)])), ((ad (B.1 k) 21), .inr (1, [.ref (ad (B.1 k) 22), .int (nI (nn (B.1 k) 21)), .int (jj (B.1 k) 4)])), ((ad (B.1 k) 22), .inl (kA 0, 400, .inl (rw' (B.1 k) 11)))] ++ _) := pkA hk (pm_places 25 [0, 1, 2, 3, 4, 5, 6, 7, 8, 9, 10, 11, 12, 13, 14, 15, 16, 17, 18, 19, 20, 21, 22, 23, 24] [] (by decide +kernel) rfl rfl rfl)
  refine frI (c_X6_read l D kA z (B.2 0) (B.2 1) 4 (B.2 2) (B.2 3) (B.2 4) (B.2 5) (B.2 6) k (bG B.1) (ad (B.1 k) 0) (ad (B.1 k) 1) (ad (B.1 k) 6) (ad (B.1 k) 8) (ad (B.1 k) 11) (ad (B.1 k) 14) (ad (B.1 k) 17) (ad (B.1 k) 20) (nn (B.1 k) 0) (nn (B.1 k) 1) (nn (B.1 k) 2) (nn (B.1 k) 3) (nn (B.1 k) 4) (ad (B.1 k) 2) (ad (B.1 k) 3) (ad (B.1 k) 4) (ad (B.1 k) 5) (nn (B.1 k) 5) (jj (B.1 k) 0) (rw' (B.1 k) 0) (rw' (B.1 k) 1) (rw' (B.1 k) 2) (rw' (B.1 k) 3) (nn (B.1 k) 6) (ad (B.1 k) 7) (ad (B.1 k) 9) (ad (B.1 k) 10) (ad (B.1 k) 12) (ad (B.1 k) 13) (jj (B.1 k) 1) (rw' (B.1 k) 4) (nn (B.1 k) 7) (nn (B.1 k) 8) (nn (B.1 k) 9) (nn (B.1 k) 10) (nn (B.1 k) 11) (nn (B.1 k) 12) (nn (B.1 k) 13) (nn (B.1 k) 14) (nn (B.1 k) 15) (nn (B.1 k) 16) (nn (B.1 k) 17) (nn (B.1 k) 18) (rw' (B.1 k) 5) (rw' (B.1 k) 6) (rw' (B.1 k) 7) (rw' (B.1 k) 8) (ad (B.1 k) 15) (ad (B.1 k) 18) (ad (B.1 k) 21) (ad (B.1 k) 16) (ad (B.1 k) 19) (ad (B.1 k) 22) (nn (B.1 k) 19) (nn (B.1 k) 20) (nn (B.1 k) 21) (jj (B.1 k) 2) (jj (B.1 k) 3) (jj (B.1 k) 4) (rw' (B.1 k) 9) (rw' (B.1 k) 10) (rw' (B.1 k) 11) (pp (B.1 k) 0) (pp (B.1 k) 1) (pp (B.1 k) 2) hk (bG_at B.1 hk) (by first | assumption | omega) (by first | assumption | omega) (by first | assumption | omega) (by first | assumption | omega) hI.2.2.2 (by first | assumption | omega) (by first | assumption | omega) (by first | assumption | omega) (by first | assumption | omega) (by first | assumption | omega) (by first | assumption | omega) (by first | assumption | omega) (by first | assumption | omega) (by first | assumption | omega) (by first | assumption | omega)) hp ?_
  intro r u hu
  obtain ⟨v_tc2, v_old2, v_dw2, v_un2, v_vl2, v_fd2, v_wdv2, v_fv2, v_nsp2, v_ngp2, v_stp2, v_cup2, v_pnp2, v_plp2, v_nsg2, v_ngg2, v_stg2, v_cug2, v_png2, v_plg2, v_vp2, v_sp92, v_vg2, v_sg2, v_lnn0, v_lnn1, v_lnn2, v_wdn0, v_wdn1, v_wdn2, v_ffn0, v_ffn1, v_ffn2, v_pen0, v_pen1, v_pen2, rfl, f_e, f_htc2, f_hol2, f_hdw2, f_hsd, f_hul0, f_hub0, f_hup0, f_hul1, f_hub1, f_hup1, f_hul2, f_hub2, f_hup2, f_hvl2, f_hb2, f_hu1, f_hu2, f_hu3, f_hfp, f_hfg, f_hcp, f_hcg, f_hsp, f_hsg⟩ := hu
  exact ⟨wB kA (uP B.1 k ((B.1 k).1, (fun q => [(nn (B.1 k) 0), v_tc2, v_un2, ((nn (B.1 k) 3) + 1), v_old2, (nn (B.1 k) 5), v_vl2, v_nsp2, v_ngp2, v_stp2, v_cup2, v_pnp2, v_plp2, v_nsg2, v_ngg2, v_stg2, v_cug2, v_png2, v_plg2, v_lnn0, v_lnn1, v_lnn2].getD q 0), (fun q => [(jj (B.1 k) 0), v_wdv2, v_wdn0, v_wdn1, v_wdn2].getD q 0), (fun q => [(rw' (B.1 k) 0), (rw' (B.1 k) 1), (rw' (B.1 k) 2), v_fd2, v_fv2, v_vp2, v_sp92, v_vg2, v_sg2, v_ffn0, v_ffn1, v_ffn2].getD q (fun _ => 0)), (fun q => [v_pen0, v_pen1, v_pen2].getD q 0)), (uP (uP B.2 3 v_dw2) 4 (B.2 4 + 1))), pkB hk rfl (pm_places 25 [0, 1, 2, 3, 4, 5, 6, 7, 8, 9, 10, 11, 12, 13, 14, 15, 16, 17, 18, 19, 20, 21, 22, 23, 24] [] (by decide +kernel) rfl rfl rfl), ((B.1 k).1, (fun q => [(nn (B.1 k) 0), v_tc2, v_un2, ((nn (B.1 k) 3) + 1), v_old2, (nn (B.1 k) 5), v_vl2, v_nsp2, v_ngp2, v_stp2, v_cup2, v_pnp2, v_plp2, v_nsg2, v_ngg2, v_stg2, v_cug2, v_png2, v_plg2, v_lnn0, v_lnn1, v_lnn2].getD q 0), (fun q => [(jj (B.1 k) 0), v_wdv2, v_wdn0, v_wdn1, v_wdn2].getD q 0), (fun q => [(rw' (B.1 k) 0), (rw' (B.1 k) 1), (rw' (B.1 k) 2), v_fd2, v_fv2, v_vp2, v_sp92, v_vg2, v_sg2, v_ffn0, v_ffn1, v_ffn2].getD q (fun _ => 0)), (fun q => [v_pen0, v_pen1, v_pen2].getD q 0)), v_dw2, rfl, f_e, f_hdw2, ⟨i0, by show v_tc2 ≤ 3; omega, f_hol2, i5, f_hb2, ⟨f_hul0, f_hub0, f_hup0⟩, ⟨f_hul1, f_hub1, f_hup1⟩, ⟨f_hul2, f_hub2, f_hup2⟩, f_hvl2, f_hu1, f_hu2, f_hu3, f_hfp, f_hfg, f_hcp, f_hcg, f_hsp, f_hsg, by show v_tc2 ≤ nn (B.1 k) 3 + 1; omega⟩, rfl, rfl, rfl, f_htc2, f_hsd⟩