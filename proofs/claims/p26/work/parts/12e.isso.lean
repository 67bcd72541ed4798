def wq_L_isSo : List Cond := .code yL_isSo cL_isSo 18 (some .boolean) :: (([.methodLink RL 33 yX6_ofTrack, .instanceMethod yX6_ofTrack, .selects RX6 yX6_ofTrack yX6_ofTrack, .initialized RX6, .methodLink RL 109 yX6_sure, .instanceMethod yX6_sure, .selects RX6 yX6_sure yX6_sure, .methodLink RL 113 yJ9_abs_294c1, .code yJ9_abs_294c1 cJ9_abs_294c1 2 (some .double), .static yJ9_abs_294c1, .initialized "java/lang/Math", .constantDouble RL 117 (4547007122018943789), .methodLink RL 80 yX6_plainLong, .instanceMethod yX6_plainLong, .selects RX6 yX6_plainLong yX6_plainLong, .methodLink RL 125 yX6_wouldLose, .instanceMethod yX6_wouldLose, .selects RX6 yX6_wouldLose yX6_wouldLose, .methodLink RL 128 yX6_goodBy, .instanceMethod yX6_goodBy, .selects RX6 yX6_goodBy yX6_goodBy, .methodLink RL 119 yX6_ofSector, .instanceMethod yX6_ofSector, .selects RX6 yX6_ofSector yX6_ofSector, .methodLink RL 122 yX6_vote, .instanceMethod yX6_vote, .selects RX6 yX6_vote yX6_vote, .methodLink RL 90 yX6_turn, .instanceMethod yX6_turn, .selects RX6 yX6_turn yX6_turn, .methodLink RL 87 Lib.Math.min.name, .static Lib.Math.min.name, .code Lib.Math.min.name Lib.Math.min.code 2 (some .int), .methodLink RL 71 Lib.Math.max.name, .static Lib.Math.max.name, .code Lib.Math.max.name Lib.Math.max.code 2 (some .int), .methodLink RL 101 yX6_period, .instanceMethod yX6_period, .selects RX6 yX6_period yX6_period, .constantDouble RL 105 (4618441417868443648), .constantDouble RL 107 (4622382067542392832)] : List Cond) ++ (wq_X6_ofTrack_B2 ++ (wq_X6_ofTrack_B3 ++ (wq_X6_ofTrack_B4 ++ (wq_X6_ofTrack_B10 ++ (wq_X6_sure_B ++ (wq_X6_ofTrack_B5 ++ (wq_X6_ofTrack_B7 ++ (wq_X6_ofTrack_B8 ++ (wq_X6_plainLong_B ++ (wq_X6_ofTrack_B6 ++ (wq_X6_ofTrack_B9 ++ (wq_X6_wouldLose_B ++ (wq_X6_ofTrack_B0 ++ (wq_X6_goodBy_B ++ (wq_X6_ofSector_B ++ (wq_X6_vote_B ++ (wq_X6_turn_lB ++ (wq_X6_period_B ++ ([] : List Cond))))))))))))))))))))
theorem gd_L_isSo : wq_L_isSo.all goodWord = true := by decide +kernel
theorem h_L_isSo_0 : GoodIn wq_L_isSo (wsV RL 33 RX6 yX6_ofTrack wq_X6_ofTrack_B2) := goodIn_app (goodIn_r _ [1, 2, 3, 4] (by decide +kernel) (by decide +kernel)) (goodIn_sub (fun w h => List.mem_cons_of_mem _ (List.mem_append_right _ (List.mem_append_left _ h))) gd_X6_ofTrack_B2)
theorem h_L_isSo_1 : GoodIn wq_L_isSo (wsV RL 33 RX6 yX6_ofTrack wq_X6_ofTrack_B3) := goodIn_app (goodIn_r _ [1, 2, 3, 4] (by decide +kernel) (by decide +kernel)) (goodIn_sub (fun w h => List.mem_cons_of_mem _ (List.mem_append_right _ (List.mem_append_right _ (List.mem_append_left _ h)))) gd_X6_ofTrack_B3)
theorem h_L_isSo_2 : GoodIn wq_L_isSo (wsV RL 33 RX6 yX6_ofTrack wq_X6_ofTrack_B4) := goodIn_app (goodIn_r _ [1, 2, 3, 4] (by decide +kernel) (by decide +kernel)) (goodIn_sub (fun w h => List.mem_cons_of_mem _ (List.mem_append_right _ (List.mem_append_right _ (List.mem_append_right _ (List.mem_append_left _ h))))) gd_X6_ofTrack_B4)
theorem h_L_isSo_3 : GoodIn wq_L_isSo (wsV RL 33 RX6 yX6_ofTrack wq_X6_ofTrack_B10) := goodIn_app (goodIn_r _ [1, 2, 3, 4] (by decide +kernel) (by decide +kernel)) (goodIn_sub (fun w h => List.mem_cons_of_mem _ (List.mem_append_right _ (List.mem_append_right _ (List.mem_append_right _ (List.mem_append_right _ (List.mem_append_left _ h)))))) gd_X6_ofTrack_B10)
theorem h_L_isSo_4 : GoodIn wq_L_isSo (wsV RL 109 RX6 yX6_sure wq_X6_sure_B) := goodIn_app (goodIn_r _ [5, 6, 7, 4] (by decide +kernel) (by decide +kernel)) (goodIn_sub (fun w h => List.mem_cons_of_mem _ (List.mem_append_right _ (List.mem_append_right _ (List.mem_append_right _ (List.mem_append_right _ (List.mem_append_right _ (List.mem_append_left _ h))))))) gd_X6_sure_B)
theorem h_L_isSo_5 : GoodIn wq_L_isSo (wsV RL 33 RX6 yX6_ofTrack wq_X6_ofTrack_B5) := goodIn_app (goodIn_r _ [1, 2, 3, 4] (by decide +kernel) (by decide +kernel)) (goodIn_sub (fun w h => List.mem_cons_of_mem _ (List.mem_append_right _ (List.mem_append_right _ (List.mem_append_right _ (List.mem_append_right _ (List.mem_append_right _ (List.mem_append_right _ (List.mem_append_left _ h)))))))) gd_X6_ofTrack_B5)
theorem h_L_isSo_6 : GoodIn wq_L_isSo (wsV RL 33 RX6 yX6_ofTrack wq_X6_ofTrack_B7) := goodIn_app (goodIn_r _ [1, 2, 3, 4] (by decide +kernel) (by decide +kernel)) (goodIn_sub (fun w h => List.mem_cons_of_mem _ (List.mem_append_right _ (List.mem_append_right _ (List.mem_append_right _ (List.mem_append_right _ (List.mem_append_right _ (List.mem_append_right _ (List.mem_append_right _ (List.mem_append_left _ h))))))))) gd_X6_ofTrack_B7)
theorem h_L_isSo_7 : GoodIn wq_L_isSo (wsV RL 33 RX6 yX6_ofTrack wq_X6_ofTrack_B8) := goodIn_app (goodIn_r _ [1, 2, 3, 4] (by decide +kernel) (by decide +kernel)) (goodIn_sub (fun w h => List.mem_cons_of_mem _ (List.mem_append_right _ (List.mem_append_right _ (List.mem_append_right _ (List.mem_append_right _ (List.mem_append_right _ (List.mem_append_right _ (List.mem_append_right _ (List.mem_append_right _ (List.mem_append_left _ h)))))))))) gd_X6_ofTrack_B8)
theorem h_L_isSo_8 : GoodIn wq_L_isSo (wsV RL 80 RX6 yX6_plainLong wq_X6_plainLong_B) := goodIn_app (goodIn_r _ [13, 14, 15, 4] (by decide +kernel) (by decide +kernel)) (goodIn_sub (fun w h => List.mem_cons_of_mem _ (List.mem_append_right _ (List.mem_append_right _ (List.mem_append_right _ (List.mem_append_right _ (List.mem_append_right _ (List.mem_append_right _ (List.mem_append_right _ (List.mem_append_right _ (List.mem_append_right _ (List.mem_append_left _ h))))))))))) gd_X6_plainLong_B)
theorem h_L_isSo_9 : GoodIn wq_L_isSo (wsV RL 33 RX6 yX6_ofTrack wq_X6_ofTrack_B6) := goodIn_app (goodIn_r _ [1, 2, 3, 4] (by decide +kernel) (by decide +kernel)) (goodIn_sub (fun w h => List.mem_cons_of_mem _ (List.mem_append_right _ (List.mem_append_right _ (List.mem_append_right _ (List.mem_append_right _ (List.mem_append_right _ (List.mem_append_right _ (List.mem_append_right _ (List.mem_append_right _ (List.mem_append_right _ (List.mem_append_right _ (List.mem_append_left _ h)))))))))))) gd_X6_ofTrack_B6)
theorem h_L_isSo_10 : GoodIn wq_L_isSo (wsV RL 33 RX6 yX6_ofTrack wq_X6_ofTrack_B9) := goodIn_app (goodIn_r _ [1, 2, 3, 4] (by decide +kernel) (by decide +kernel)) (goodIn_sub (fun w h => List.mem_cons_of_mem _ (List.mem_append_right _ (List.mem_append_right _ (List.mem_append_right _ (List.mem_append_right _ (List.mem_append_right _ (List.mem_append_right _ (List.mem_append_right _ (List.mem_append_right _ (List.mem_append_right _ (List.mem_append_right _ (List.mem_append_right _ (List.mem_append_left _ h))))))))))))) gd_X6_ofTrack_B9)
theorem h_L_isSo_11 : GoodIn wq_L_isSo (wsV RL 125 RX6 yX6_wouldLose wq_X6_wouldLose_B) := goodIn_app (goodIn_r _ [16, 17, 18, 4] (by decide +kernel) (by decide +kernel)) (goodIn_sub (fun w h => List.mem_cons_of_mem _ (List.mem_append_right _ (List.mem_append_right _ (List.mem_append_right _ (List.mem_append_right _ (List.mem_append_right _ (List.mem_append_right _ (List.mem_append_right _ (List.mem_append_right _ (List.mem_append_right _ (List.mem_append_right _ (List.mem_append_right _ (List.mem_append_right _ (List.mem_append_left _ h)))))))))))))) gd_X6_wouldLose_B)
theorem h_L_isSo_12 : GoodIn wq_L_isSo (wsV RL 33 RX6 yX6_ofTrack wq_X6_ofTrack_B0) := goodIn_app (goodIn_r _ [1, 2, 3, 4] (by decide +kernel) (by decide +kernel)) (goodIn_sub (fun w h => List.mem_cons_of_mem _ (List.mem_append_right _ (List.mem_append_right _ (List.mem_append_right _ (List.mem_append_right _ (List.mem_append_right _ (List.mem_append_right _ (List.mem_append_right _ (List.mem_append_right _ (List.mem_append_right _ (List.mem_append_right _ (List.mem_append_right _ (List.mem_append_right _ (List.mem_append_right _ (List.mem_append_left _ h))))))))))))))) gd_X6_ofTrack_B0)
theorem h_L_isSo_13 : GoodIn wq_L_isSo (wsV RL 128 RX6 yX6_goodBy wq_X6_goodBy_B) := goodIn_app (goodIn_r _ [19, 20, 21, 4] (by decide +kernel) (by decide +kernel)) (goodIn_sub (fun w h => List.mem_cons_of_mem _ (List.mem_append_right _ (List.mem_append_right _ (List.mem_append_right _ (List.mem_append_right _ (List.mem_append_right _ (List.mem_append_right _ (List.mem_append_right _ (List.mem_append_right _ (List.mem_append_right _ (List.mem_append_right _ (List.mem_append_right _ (List.mem_append_right _ (List.mem_append_right _ (List.mem_append_right _ (List.mem_append_left _ h)))))))))))))))) gd_X6_goodBy_B)
theorem h_L_isSo_14 : GoodIn wq_L_isSo (wsV RL 119 RX6 yX6_ofSector wq_X6_ofSector_B) := goodIn_app (goodIn_r _ [22, 23, 24, 4] (by decide +kernel) (by decide +kernel)) (goodIn_sub (fun w h => List.mem_cons_of_mem _ (List.mem_append_right _ (List.mem_append_right _ (List.mem_append_right _ (List.mem_append_right _ (List.mem_append_right _ (List.mem_append_right _ (List.mem_append_right _ (List.mem_append_right _ (List.mem_append_right _ (List.mem_append_right _ (List.mem_append_right _ (List.mem_append_right _ (List.mem_append_right _ (List.mem_append_right _ (List.mem_append_right _ (List.mem_append_left _ h))))))))))))))))) gd_X6_ofSector_B)
theorem h_L_isSo_15 : GoodIn wq_L_isSo (wsV RL 122 RX6 yX6_vote wq_X6_vote_B) := goodIn_app (goodIn_r _ [25, 26, 27, 4] (by decide +kernel) (by decide +kernel)) (goodIn_sub (fun w h => List.mem_cons_of_mem _ (List.mem_append_right _ (List.mem_append_right _ (List.mem_append_right _ (List.mem_append_right _ (List.mem_append_right _ (List.mem_append_right _ (List.mem_append_right _ (List.mem_append_right _ (List.mem_append_right _ (List.mem_append_right _ (List.mem_append_right _ (List.mem_append_right _ (List.mem_append_right _ (List.mem_append_right _ (List.mem_append_right _ (List.mem_append_right _ (List.mem_append_left _ h)))))))))))))))))) gd_X6_vote_B)
theorem h_L_isSo_16 : GoodIn wq_L_isSo (wsV RL 90 RX6 yX6_turn wq_X6_turn_lB) := goodIn_app (goodIn_r _ [28, 29, 30, 4] (by decide +kernel) (by decide +kernel)) (goodIn_sub (fun w h => List.mem_cons_of_mem _ (List.mem_append_right _ (List.mem_append_right _ (List.mem_append_right _ (List.mem_append_right _ (List.mem_append_right _ (List.mem_append_right _ (List.mem_append_right _ (List.mem_append_right _ (List.mem_append_right _ (List.mem_append_right _ (List.mem_append_right _ (List.mem_append_right _ (List.mem_append_right _ (List.mem_append_right _ (List.mem_append_right _ (List.mem_append_right _ (List.mem_append_right _ (List.mem_append_left _ h))))))))))))))))))) gd_X6_turn_lB)
theorem h_L_isSo_17 : GoodIn wq_L_isSo (wsV RL 101 RX6 yX6_period wq_X6_period_B) := goodIn_app (goodIn_r _ [37, 38, 39, 4] (by decide +kernel) (by decide +kernel)) (goodIn_sub (fun w h => List.mem_cons_of_mem _ (List.mem_append_right _ (List.mem_append_right _ (List.mem_append_right _ (List.mem_append_right _ (List.mem_append_right _ (List.mem_append_right _ (List.mem_append_right _ (List.mem_append_right _ (List.mem_append_right _ (List.mem_append_right _ (List.mem_append_right _ (List.mem_append_right _ (List.mem_append_right _ (List.mem_append_right _ (List.mem_append_right _ (List.mem_append_right _ (List.mem_append_right _ (List.mem_append_right _ (List.mem_append_left _ h)))))))))))))))))))) gd_X6_period_B)
set_option maxHeartbeats 4000000 in
set_option maxRecDepth 100000 in
theorem c_L_isSo (l : Launch) (D : va_G) (kA : Nat → ClassId) (z : Nat) (B : BS) (be k : Nat) (hbe : B.2 0 = be) (hI : BI B) (hk : k < 4) (h3 : nn (B.1 k) 3 < 2 ^ 31) : mI l D (tyL kA) z yL_isSo wq_L_isSo ({ frames := 4, cells := 0, slots := 0, locals := 90 }) [.ref be, .int (nI k)] (wB kA B) (fun r w => w = (wB kA B) ∧ (r = nI 1)) := by
  refine ofI (cc := cL_isSo) (maxL := 18) RL rfl (by decide +kernel) rfl (Nat.le_of_ble_eq_true rfl) ?_
  intro p e s m args below meth c A ls hE
  obtain ⟨hx, hb, hr, hml, hts, hown, hlocks, hA, hS, hP, hK, hD, hG, hl⟩ := hE
  have hl : lv_has ls 18 [(0, .ref be), (1, .int (nI k))] := hl
  have hH : s.heap = s.heap := rfl
  have iT := hI.1 k hk
  obtain ⟨i0, i1, i4, i5, iv, ⟨ia0, ia1, ia2⟩, ⟨ib0, ib1, ib2⟩, ⟨ic0, ic1, ic2⟩, i6, ix, iy, iw, iP, iG, i10, i16, i9, i15, i3⟩ := id iT
  have iV := iT.vl4
  have iU := iT.un4
  have in7 := iP.1
  have in13 := iG.1
  have in8 : nn (B.1 k) 8 ≤ 8 := by rw [iP.2.2.1]; exact Nat.le_trans (cntG_le _ _) in7
  have in14 : nn (B.1 k) 14 ≤ 8 := by rw [iG.2.2.1]; exact Nat.le_trans (cntG_le _ _) in13
  have il12 := iP.2.2.2.1.2.1
  have il18 := iG.2.2.2.1.2.1
  have hl4 := iT.len4
  obtain ⟨hns8, ⟨E, hE0, hEn, hsO⟩, hngE, hpl4, hplg, hcu1, hst4⟩ := iT.own
  have hng8 : ngS (B.1 k) ≤ 8 := by rw [hngE]; exact Nat.le_trans (cntG_le _ _) hns8
  have hcxB := cx_B (B.1 k)
  have hcl := cB_le (nn (B.1 k) 0)
  have hF400 : mxS (lenF (B.1 k)) (nn (B.1 k) 1) ≤ 400 := mxS_le hl4 _
  refine lv_aload_n hx hb dL_isSo_0 rfl (lv_at hl 0 rfl) ?_
  refine lv_iload_n hx hb dL_isSo_1 rfl (lv_at hl 1 rfl) ?_
  refine lv_iconst (v := nI 2) hx hb dL_isSo_2 (by decide) ?_
  have hF := chF [] hD hS hA
  refine va_calli (va_runV (As := [.int (nI k), .int (nI 2)]) (rest := []) ⟨hx, hb, hml, hown, hts⟩ (c_X6_ofTrack_B2 l D kA z B be k (by first | assumption | omega) (by first | assumption | omega) (by first | assumption | omega) _) (cwV 2 hts h_L_isSo_0 rfl rfl rfl (by decide +kernel) ⟨Nat.le_of_ble_eq_true rfl, Nat.le_of_ble_eq_true rfl⟩) (fPvB [] (hbe) hK hP hD hS hG hF) rfl rfl hl.1 rfl (lv_room (Nat.le_of_ble_eq_true rfl)) dL_isSo_3 ⟨Nat.le_of_ble_eq_true rfl, Nat.le_of_ble_eq_true rfl⟩) hS (fun q _ h => hF q h) hF (fun r_1 w1 t H locs ht hvm hw hB hz1 hk1 hS => ?_)
  obtain ⟨hP, hD⟩ := chJ [] hP hD hk1 hF ht hB
  try dsimp only at hw
  obtain ⟨rfl, e_1⟩ := hw
  replace e_1 := e_1.symm
  subst e_1
  have hP : va_P D vwCl (wB kA B) H := hP
  have hD : va_D A (wB kA B) := hD
  refine lv_istore_n (lv' := [(2, .int (nI (nn (B.1 k) 1))), (0, .ref be), (1, .int (nI k))]) hx hb dL_isSo_6 rfl hl (by decide) rfl (fun ls hl => ?_)
  refine lv_aload_n hx hb dL_isSo_7 rfl (lv_at hl 1 rfl) ?_
  refine lv_iload_n hx hb dL_isSo_8 rfl (lv_at hl 2 rfl) ?_
  refine lv_iconst (v := nI 3) hx hb dL_isSo_9 (by decide) ?_
  have hF := chF [] hD hS hA
  refine va_calli (va_runV (As := [.int (nI k), .int (nI 3)]) (rest := []) ⟨hx, hb, hml, hown, hts⟩ (c_X6_ofTrack_B3 l D kA z B be k (by first | assumption | omega) (by first | assumption | omega) (by first | assumption | omega) _) (cwV 2 hts h_L_isSo_1 rfl rfl rfl (by decide +kernel) ⟨Nat.le_of_ble_eq_true rfl, Nat.le_of_ble_eq_true rfl⟩) (fPvB [] (hbe) hK hP hD hS hG hF) rfl rfl hl.1 rfl (lv_room (Nat.le_of_ble_eq_true rfl)) dL_isSo_10 ⟨Nat.le_of_ble_eq_true rfl, Nat.le_of_ble_eq_true rfl⟩) hS (fun q _ h => hF q h) hF (fun r_2 w1 t H locs ht hvm hw hB hz1 hk1 hS => ?_)
  obtain ⟨hP, hD⟩ := chJ [] hP hD hk1 hF ht hB
  try dsimp only at hw
  obtain ⟨rfl, e_2⟩ := hw
  replace e_2 := e_2.symm
  subst e_2
  have hP : va_P D vwCl (wB kA B) H := hP
  have hD : va_D A (wB kA B) := hD
  refine lv_istore_n (lv' := [(3, .int (nI (nn (B.1 k) 6))), (2, .int (nI (nn (B.1 k) 1))), (0, .ref be), (1, .int (nI k))]) hx hb dL_isSo_13 rfl hl (by decide) rfl (fun ls hl => ?_)
  refine lv_aload_n hx hb dL_isSo_14 rfl (lv_at hl 2 rfl) ?_
  refine lv_iload_n hx hb dL_isSo_15 rfl (lv_at hl 3 rfl) ?_
  refine lv_iconst (v := nI 4) hx hb dL_isSo_16 (by decide) ?_
  have hF := chF [] hD hS hA
  refine va_calli (va_runV (As := [.int (nI k), .int (nI 4)]) (rest := []) ⟨hx, hb, hml, hown, hts⟩ (c_X6_ofTrack_B4 l D kA z B be k (by first | assumption | omega) (by first | assumption | omega) (by first | assumption | omega) _) (cwV 2 hts h_L_isSo_2 rfl rfl rfl (by decide +kernel) ⟨Nat.le_of_ble_eq_true rfl, Nat.le_of_ble_eq_true rfl⟩) (fPvB [] (hbe) hK hP hD hS hG hF) rfl rfl hl.1 rfl (lv_room (Nat.le_of_ble_eq_true rfl)) dL_isSo_17 ⟨Nat.le_of_ble_eq_true rfl, Nat.le_of_ble_eq_true rfl⟩) hS (fun q _ h => hF q h) hF (fun r_3 w1 t H locs ht hvm hw hB hz1 hk1 hS => ?_)
  obtain ⟨hP, hD⟩ := chJ [] hP hD hk1 hF ht hB
  try dsimp only at hw
  obtain ⟨rfl, e_3⟩ := hw
  replace e_3 := e_3.symm
  subst e_3
  have hP : va_P D vwCl (wB kA B) H := hP
  have hD : va_D A (wB kA B) := hD
  refine lv_istore (lv' := [(4, .int (nI (nn (B.1 k) 2))), (3, .int (nI (nn (B.1 k) 6))), (2, .int (nI (nn (B.1 k) 1))), (0, .ref be), (1, .int (nI k))]) hx hb dL_isSo_20 hl (by decide) rfl (fun ls hl => ?_)
  refine lv_iload_n hx hb dL_isSo_22 rfl (lv_at hl 2 rfl) ?_
  have jn_33 : ∀ (s0 : Nat) (_ : True), (s0 = if nn (B.1 k) 1 = 0 then 0 else 400) → ∀ (H : Heap) (locs : List Loc) (ls : Array Slot), va_P D vwCl (wB kA B) H → va_D A (wB kA B) → va_S A s.heap H locs → lv_has ls 18 [(4, .int (nI (nn (B.1 k) 2))), (3, .int (nI (nn (B.1 k) 6))), (2, .int (nI (nn (B.1 k) 1))), (0, .ref be), (1, .int (nI k))] → W p l e ({ frames := 4, cells := 0, slots := 0, locals := 90 }) s m args below meth c H locs 0 0 (MQ below (va_Qi (fun r w => w = (wB kA B) ∧ (r = nI 1)) (fB D (tyL kA) A) A) args s 0 0 A) (F0 m 33 ls [.int (nI s0)]) := by
    clear hP hD hS hl
    intro s0 _ hs0 H locs ls hP hD hS hl
    refine lv_istore (lv' := [(5, .int (nI s0)), (4, .int (nI (nn (B.1 k) 2))), (3, .int (nI (nn (B.1 k) 6))), (2, .int (nI (nn (B.1 k) 1))), (0, .ref be), (1, .int (nI k))]) hx hb dL_isSo_33 hl (by decide) rfl (fun ls hl => ?_)
    refine lv_iconst (v := nI 0) hx hb dL_isSo_35 (by decide) ?_
    refine lv_istore (lv' := [(6, .int (nI 0)), (5, .int (nI s0)), (4, .int (nI (nn (B.1 k) 2))), (3, .int (nI (nn (B.1 k) 6))), (2, .int (nI (nn (B.1 k) 1))), (0, .ref be), (1, .int (nI k))]) hx hb dL_isSo_36 hl (by decide) rfl (fun ls hl => ?_)
    refine lv_iconst (v := nI 0) hx hb dL_isSo_38 (by decide) ?_
    refine lv_istore (lv' := [(7, .int (nI 0)), (6, .int (nI 0)), (5, .int (nI s0)), (4, .int (nI (nn (B.1 k) 2))), (3, .int (nI (nn (B.1 k) 6))), (2, .int (nI (nn (B.1 k) 1))), (0, .ref be), (1, .int (nI k))]) hx hb dL_isSo_39 hl (by decide) rfl (fun ls hl => ?_)
    have lp_41 : ∀ (n_41 : Nat) (i : Nat) (sh9 : Nat) (lg9 : Nat), nn (B.1 k) 1 - i < n_41 → (i ≤ nn (B.1 k) 1) → (sh9 = mnS s0 (lenF (B.1 k)) i) → (lg9 = mxS (lenF (B.1 k)) i) → ∀ (H : Heap) (locs : List Loc) (ls : Array Slot), va_P D vwCl (wB kA B) H → va_D A (wB kA B) → va_S A s.heap H locs → lv_has ls 18 [(7, .int (nI i)), (6, .int (nI lg9)), (5, .int (nI sh9)), (4, .int (nI (nn (B.1 k) 2))), (3, .int (nI (nn (B.1 k) 6))), (2, .int (nI (nn (B.1 k) 1))), (0, .ref be), (1, .int (nI k))] → W p l e ({ frames := 4, cells := 0, slots := 0, locals := 90 }) s m args below meth c H locs 0 0 (MQ below (va_Qi (fun r w => w = (wB kA B) ∧ (r = nI 1)) (fB D (tyL kA) A) A) args s 0 0 A) (F0 m 41 ls []) := by
      clear hP hD hS hl
      intro n_41
      induction n_41 with
      | zero =>
        intro i sh9 lg9 hm_41 hi1 hsh hlg
        exact absurd hm_41 (by omega)
      | succ n_41 ih_41 =>
        intro i sh9 lg9 hm_41 hi1 hsh hlg H locs ls hP hD hS hl
        have hs4 : s0 ≤ 400 := by rw [hs0]; split <;> omega
        have hsh4 : sh9 ≤ 400 := by rw [hsh]; exact Nat.le_trans (mnS_le0 _ _ _) hs4
        have hlg4 : lg9 ≤ 400 := by rw [hlg]; exact mxS_le hl4 _
        have hli := hl4 i
        refine lv_iload hx hb dL_isSo_41 (lv_at hl 0 rfl) ?_
        refine lv_iload_n hx hb dL_isSo_43 rfl (lv_at hl 5 rfl) ?_
        refine lv_icmp_ge (tgt := 119) hx hb dL_isSo_44 (by decide) (fun c44 => ?_) (fun c44 => ?_)
        ·
          rw [qle (a := (nn (B.1 k) 1)) (b := i) (by omega) (by omega)] at c44
          rw [show i = nn (B.1 k) 1 from by omega] at hsh hlg
          have hvl9 : nn (B.1 k) 6 = sh9 := by rw [hsh, hs0]; exact i6
          have hmm : sh9 ≤ lg9 := by rw [hsh, hlg]; exact mn_mx (fun h => by rw [hs0, if_pos h])
          have hx9 : lg9 ≤ nn (B.1 k) 2 + nn (B.1 k) 6 := by rw [hlg]; exact ix
          have hy9 : nn (B.1 k) 2 ≤ lg9 := by rw [hlg]; exact iy
          have htz : nn (B.1 k) 1 = 0 → sh9 = 0 ∧ lg9 = 0 := fun h => ⟨by rw [hsh, hs0, if_pos h, h]; rfl, by rw [hlg, h]; rfl⟩
          refine lv_iload_n hx hb dL_isSo_119 rfl (lv_at hl 4 rfl) ?_
          refine lv_iload hx hb dL_isSo_120 (lv_at hl 2 rfl) ?_
          refine lv_icmp_ne (tgt := 168) hx hb dL_isSo_122 (by decide) (fun c122 => False.elim (by rw [qeq (a := (nn (B.1 k) 6)) (b := sh9) (by omega) (by omega)] at c122; omega)) (fun _ => ?_)
          refine lv_iload hx hb dL_isSo_125 (lv_at hl 3 rfl) ?_
          refine lv_iload hx hb dL_isSo_127 (lv_at hl 1 rfl) ?_
          refine lv_iload hx hb dL_isSo_129 (lv_at hl 2 rfl) ?_
          refine lv_isub hx hb dL_isSo_131 ?_
          rw [pk_sub (a := lg9) (b := sh9) (by omega)]
          refine lv_icmp_lt (tgt := 168) hx hb dL_isSo_132 (by decide) (fun c132 => False.elim (by rw [qlt (a := (nn (B.1 k) 2)) (b := (lg9 - sh9)) (by omega) (by omega)] at c132; omega)) (fun _ => ?_)
          refine lv_iload hx hb dL_isSo_135 (lv_at hl 3 rfl) ?_
          refine lv_iload hx hb dL_isSo_137 (lv_at hl 1 rfl) ?_
          refine lv_icmp_gt (tgt := 168) hx hb dL_isSo_139 (by decide) (fun c139 => False.elim (by rw [qlt (a := lg9) (b := (nn (B.1 k) 2)) (by omega) (by omega)] at c139; omega)) (fun _ => ?_)
          refine lv_iload_n hx hb dL_isSo_142 rfl (lv_at hl 5 rfl) ?_
          refine lv_iconst (v := nI 2) hx hb dL_isSo_143 (by decide) ?_
          refine lv_icmp_ge (tgt := 152) hx hb dL_isSo_144 (by decide) (fun c144 => ?_) (fun c144 => ?_)
          ·
            rw [qle (a := 2) (b := (nn (B.1 k) 1)) (by omega) (by omega)] at c144
            refine lv_iload_n hx hb dL_isSo_152 rfl (lv_at hl 5 rfl) ?_
            refine lv_iconst (v := nI 3) hx hb dL_isSo_153 (by decide) ?_
            refine lv_icmp_gt (tgt := 168) hx hb dL_isSo_154 (by decide) (fun c154 => False.elim (by rw [qlt (a := 3) (b := (nn (B.1 k) 1)) (by omega) (by omega)] at c154; omega)) (fun _ => ?_)
            refine lv_aload_n hx hb dL_isSo_157 rfl (lv_at hl 6 rfl) ?_
            refine lv_iload_n hx hb dL_isSo_158 rfl (lv_at hl 7 rfl) ?_
            refine lv_bipush (v := nI 10) hx hb dL_isSo_159 (by decide) ?_
            have hF := chF [] hD hS hA
            refine va_calli (va_runV (As := [.int (nI k), .int (nI 10)]) (rest := []) ⟨hx, hb, hml, hown, hts⟩ (c_X6_ofTrack_B10 l D kA z B be k (by first | assumption | omega) (by first | assumption | omega) (by first | assumption | omega) _) (cwV 2 hts h_L_isSo_3 rfl rfl rfl (by decide +kernel) ⟨Nat.le_of_ble_eq_true rfl, Nat.le_of_ble_eq_true rfl⟩) (fPvB [] (hbe) hK hP hD hS hG hF) rfl rfl hl.1 rfl (lv_room (Nat.le_of_ble_eq_true rfl)) dL_isSo_161 ⟨Nat.le_of_ble_eq_true rfl, Nat.le_of_ble_eq_true rfl⟩) hS (fun q _ h => hF q h) hF (fun r_4 w1 t H locs ht hvm hw hB hz1 hk1 hS => ?_)
            obtain ⟨hP, hD⟩ := chJ [] hP hD hk1 hF ht hB
            try dsimp only at hw
            obtain ⟨rfl, e_4⟩ := hw
            replace e_4 := e_4.symm
            subst e_4
            have hP : va_P D vwCl (wB kA B) H := hP
            have hD : va_D A (wB kA B) := hD
            refine lv_iload_n hx hb dL_isSo_164 rfl (lv_at hl 5 rfl) ?_
            refine lv_icmp_ge (tgt := 170) hx hb dL_isSo_165 (by decide) (fun _ => ?_) (fun c165 => False.elim (by rw [qle (a := (nn (B.1 k) 1)) (b := (nn (B.1 k) 3)) (by omega) (by omega)] at c165; omega))
            refine lv_aload_n hx hb dL_isSo_170 rfl (lv_at hl 6 rfl) ?_
            refine lv_iload_n hx hb dL_isSo_171 rfl (lv_at hl 7 rfl) ?_
            have hF := chF [] hD hS hA
            refine va_calld (va_runV (As := [.int (nI k)]) (rest := []) ⟨hx, hb, hml, hown, hts⟩ (c_X6_sure_B l D kA z B be k (by first | assumption | omega) (by first | assumption | omega) (by first | assumption | omega) _) (cwV 1 hts h_L_isSo_4 rfl rfl rfl (by decide +kernel) ⟨Nat.le_of_ble_eq_true rfl, Nat.le_of_ble_eq_true rfl⟩) (fPvB [] (hbe) hK hP hD hS hG hF) rfl rfl hl.1 rfl (lv_room (Nat.le_of_ble_eq_true rfl)) dL_isSo_172 ⟨Nat.le_of_ble_eq_true rfl, Nat.le_of_ble_eq_true rfl⟩) hS (fun q _ h => hF q h) hF (fun r_5 w1 t H locs ht hvm hw hB hz1 hk1 hS => ?_)
            obtain ⟨hP, hD⟩ := chJ [] hP hD hk1 hF ht hB
            try dsimp only at hw
            obtain ⟨rfl, e_5⟩ := hw
            have hP : va_P D vwCl (wB kA B) H := hP
            have hD : va_D A (wB kA B) := hD
            have hsu := e_5
            refine lv_dstore (lv' := [(7, .double r_5), (6, .int (nI lg9)), (5, .int (nI sh9)), (4, .int (nI (nn (B.1 k) 2))), (3, .int (nI (nn (B.1 k) 6))), (2, .int (nI (nn (B.1 k) 1))), (0, .ref be), (1, .int (nI k))]) hx hb dL_isSo_175 hl (by decide) rfl (fun ls hl => ?_)
            refine lv_iload_n hx hb dL_isSo_177 rfl (lv_at hl 4 rfl) ?_
            refine lv_iload hx hb dL_isSo_178 (lv_at hl 3 rfl) ?_
            refine lv_iadd hx hb dL_isSo_180 ?_
            rw [nI_add (nn (B.1 k) 6) (nn (B.1 k) 2)]
            refine lv_if_ne (tgt := 194) hx hb dL_isSo_181 (by decide) (fun c181 => ?_) (fun c181 => ?_)
            ·
              rw [qz (a := (nn (B.1 k) 6 + (nn (B.1 k) 2))) (by omega)] at c181
              have hnz : nn (B.1 k) 6 + nn (B.1 k) 2 ≠ 0 := by omega
              have hfs : r_5 = fpS (nn (B.1 k) 2) (nn (B.1 k) 6) := by rw [hsu, sureF, if_neg (by omega)]; rfl
              have hfp := fp_ok (u := nn (B.1 k) 2) (v := nn (B.1 k) 6) iU iV hnz
              have hls9 : lv_has ls 18 [(7, .double (fpS (nn (B.1 k) 2) (nn (B.1 k) 6))), (6, .int (nI lg9)), (5, .int (nI sh9)), (4, .int (nI (nn (B.1 k) 2))), (3, .int (nI (nn (B.1 k) 6))), (2, .int (nI (nn (B.1 k) 1))), (0, .ref be), (1, .int (nI k))] := by rw [hfs] at hl; exact hl
              have hl := hls9
              refine lv_dconst1 hx hb dL_isSo_194 ?_
              refine lv_dload hx hb dL_isSo_195 (lv_at hl 0 rfl) ?_
              refine lv_dsub hx hb dL_isSo_197 (n64 hfp.1) ?_
              refine lv_iload_n hx hb dL_isSo_198 rfl (lv_at hl 4 rfl) ?_
              refine lv_iload hx hb dL_isSo_199 (lv_at hl 3 rfl) ?_
              refine lv_iadd hx hb dL_isSo_201 ?_
              rw [nI_add (nn (B.1 k) 6) (nn (B.1 k) 2)]
              refine lv_i2d hx hb dL_isSo_202 ?_
              refine lv_dmul hx hb dL_isSo_203 (n64 hfp.2.1) ?_
              refine lv_iload hx hb dL_isSo_204 (lv_at hl 3 rfl) ?_
              refine lv_i2d hx hb dL_isSo_206 ?_
              refine lv_dsub hx hb dL_isSo_207 (n64 hfp.2.2.1) ?_
              refine vn_absD hx hb (by rw [hml]; exact hl.1.symm) hown (y := yJ9_abs_294c1) rfl (wAt hts 8 (w := .methodLink RL 113 yJ9_abs_294c1) rfl) (wAt hts 9 (w := .code yJ9_abs_294c1 cJ9_abs_294c1 2 (some .double)) rfl) (wAt hts 10 (w := .static yJ9_abs_294c1) rfl) (wAt hts 11 (w := .initialized "java/lang/Math") rfl) (n64 hfp.2.2.1) (Nat.le_of_ble_eq_true rfl) (Nat.le_of_ble_eq_true rfl) dL_isSo_208 ?_
              refine lv_ldc2d hx hb hown (wAt hts 12 (w := .constantDouble RL 117 (4547007122018943789)) rfl) dL_isSo_211 ?_
              refine lv_dcmp hx hb dL_isSo_214 ?_
              refine lv_if_le (tgt := 220) hx hb dL_isSo_215 (by decide) (fun _ => ?_) (fun c215 => absurd (cmpL2 (by have h := hfp.2.2.2; rw [ab_eq] at h; exact h)) c215)
              refine lv_aload_n hx hb dL_isSo_220 rfl (lv_at hl 6 rfl) ?_
              refine lv_iload_n hx hb dL_isSo_221 rfl (lv_at hl 7 rfl) ?_
              refine lv_iconst (v := nI 5) hx hb dL_isSo_222 (by decide) ?_
              have hF := chF [] hD hS hA
              refine va_calli (va_runV (As := [.int (nI k), .int (nI 5)]) (rest := []) ⟨hx, hb, hml, hown, hts⟩ (c_X6_ofTrack_B5 l D kA z B be k (by first | assumption | omega) (by first | assumption | omega) (by first | assumption | omega) _) (cwV 2 hts h_L_isSo_5 rfl rfl rfl (by decide +kernel) ⟨Nat.le_of_ble_eq_true rfl, Nat.le_of_ble_eq_true rfl⟩) (fPvB [] (hbe) hK hP hD hS hG hF) rfl rfl hl.1 rfl (lv_room (Nat.le_of_ble_eq_true rfl)) dL_isSo_223 ⟨Nat.le_of_ble_eq_true rfl, Nat.le_of_ble_eq_true rfl⟩) hS (fun q _ h => hF q h) hF (fun r_6 w1 t H locs ht hvm hw hB hz1 hk1 hS => ?_)
              obtain ⟨hP, hD⟩ := chJ [] hP hD hk1 hF ht hB
              try dsimp only at hw
              obtain ⟨rfl, e_6⟩ := hw
              replace e_6 := e_6.symm
              subst e_6
              have hP : va_P D vwCl (wB kA B) H := hP
              have hD : va_D A (wB kA B) := hD
              refine lv_istore (lv' := [(9, .int (nI (nsS (B.1 k)))), (7, .double (fpS (nn (B.1 k) 2) (nn (B.1 k) 6))), (6, .int (nI lg9)), (5, .int (nI sh9)), (4, .int (nI (nn (B.1 k) 2))), (3, .int (nI (nn (B.1 k) 6))), (2, .int (nI (nn (B.1 k) 1))), (0, .ref be), (1, .int (nI k))]) hx hb dL_isSo_226 hl (by decide) rfl (fun ls hl => ?_)
              refine lv_iconst (v := nI 0) hx hb dL_isSo_228 (by decide) ?_
              refine lv_istore (lv' := [(10, .int (nI 0)), (9, .int (nI (nsS (B.1 k)))), (7, .double (fpS (nn (B.1 k) 2) (nn (B.1 k) 6))), (6, .int (nI lg9)), (5, .int (nI sh9)), (4, .int (nI (nn (B.1 k) 2))), (3, .int (nI (nn (B.1 k) 6))), (2, .int (nI (nn (B.1 k) 1))), (0, .ref be), (1, .int (nI k))]) hx hb dL_isSo_229 hl (by decide) rfl (fun ls hl => ?_)
              refine lv_iconst (v := nI 0) hx hb dL_isSo_231 (by decide) ?_
              refine lv_istore (lv' := [(11, .int (nI 0)), (10, .int (nI 0)), (9, .int (nI (nsS (B.1 k)))), (7, .double (fpS (nn (B.1 k) 2) (nn (B.1 k) 6))), (6, .int (nI lg9)), (5, .int (nI sh9)), (4, .int (nI (nn (B.1 k) 2))), (3, .int (nI (nn (B.1 k) 6))), (2, .int (nI (nn (B.1 k) 1))), (0, .ref be), (1, .int (nI k))]) hx hb dL_isSo_232 hl (by decide) rfl (fun ls hl => ?_)
              refine lv_iconst (v := nI 0) hx hb dL_isSo_234 (by decide) ?_
              refine lv_istore (lv' := [(12, .int (nI 0)), (11, .int (nI 0)), (10, .int (nI 0)), (9, .int (nI (nsS (B.1 k)))), (7, .double (fpS (nn (B.1 k) 2) (nn (B.1 k) 6))), (6, .int (nI lg9)), (5, .int (nI sh9)), (4, .int (nI (nn (B.1 k) 2))), (3, .int (nI (nn (B.1 k) 6))), (2, .int (nI (nn (B.1 k) 1))), (0, .ref be), (1, .int (nI k))]) hx hb dL_isSo_235 hl (by decide) rfl (fun ls hl => ?_)
              refine lv_iconst (v := nI 0) hx hb dL_isSo_237 (by decide) ?_
              refine lv_istore (lv' := [(13, .int (nI 0)), (12, .int (nI 0)), (11, .int (nI 0)), (10, .int (nI 0)), (9, .int (nI (nsS (B.1 k)))), (7, .double (fpS (nn (B.1 k) 2) (nn (B.1 k) 6))), (6, .int (nI lg9)), (5, .int (nI sh9)), (4, .int (nI (nn (B.1 k) 2))), (3, .int (nI (nn (B.1 k) 6))), (2, .int (nI (nn (B.1 k) 1))), (0, .ref be), (1, .int (nI k))]) hx hb dL_isSo_238 hl (by decide) rfl (fun ls hl => ?_)
              have lp_240 : ∀ (n_240 : Nat) (i : Nat) (gd : Nat) (at9 : Nat) (tw : Nat), nsS (B.1 k) - i < n_240 → (i ≤ nsS (B.1 k)) → (gd = cntG (vS (B.1 k)) i) → (at9 = E i) → (tw ≤ 1) → (tw = 1 ↔ isTw (vS (B.1 k)) i) → ∀ (H : Heap) (locs : List Loc) (ls : Array Slot), va_P D vwCl (wB kA B) H → va_D A (wB kA B) → va_S A s.heap H locs → lv_has ls 18 [(13, .int (nI i)), (12, .int (nI tw)), (11, .int (nI at9)), (10, .int (nI gd)), (9, .int (nI (nsS (B.1 k)))), (4, .int (nI (nn (B.1 k) 2))), (3, .int (nI (nn (B.1 k) 6))), (2, .int (nI (nn (B.1 k) 1))), (0, .ref be), (1, .int (nI k))] → W p l e ({ frames := 4, cells := 0, slots := 0, locals := 90 }) s m args below meth c H locs 0 0 (MQ below (va_Qi (fun r w => w = (wB kA B) ∧ (r = nI 1)) (fB D (tyL kA) A) A) args s 0 0 A) (F0 m 240 ls []) := by
                clear hP hD hS hl
                intro n_240
                induction n_240 with
                | zero =>
                  intro i gd at9 tw hm_240 hi1 hgd hat htw1 htw2
                  exact absurd hm_240 (by omega)
                | succ n_240 ih_240 =>
                  intro i gd at9 tw hm_240 hi1 hgd hat htw1 htw2 H locs ls hP hD hS hl
                  have hgd8 := cntG_le (vS (B.1 k)) i
                  rw [← hgd] at hgd8
                  refine lv_iload hx hb dL_isSo_240 (lv_at hl 0 rfl) ?_
                  refine lv_iload hx hb dL_isSo_242 (lv_at hl 4 rfl) ?_
                  refine lv_icmp_ge (tgt := 465) hx hb dL_isSo_244 (by decide) (fun c244 => ?_) (fun c244 => ?_)
                  ·
                    rw [qle (a := (nsS (B.1 k))) (b := i) (by omega) (by omega)] at c244
                    rw [show i = nsS (B.1 k) from by omega] at hgd htw2
                    have hgN : gd = ngS (B.1 k) := by rw [hgd, hngE]
                    have htN := twN_of htw1 htw2
                    refine lv_iload hx hb dL_isSo_465 (lv_at hl 4 rfl) ?_
                    refine lv_iload hx hb dL_isSo_467 (lv_at hl 3 rfl) ?_
                    have jn_477 : ∀ (g1 : Nat) (_ : True), (g1 = if gd < nsS (B.1 k) then 1 else 0) → ∀ (H : Heap) (locs : List Loc) (ls : Array Slot), va_P D vwCl (wB kA B) H → va_D A (wB kA B) → va_S A s.heap H locs → lv_has ls 18 [(13, .int (nI i)), (12, .int (nI tw)), (11, .int (nI at9)), (10, .int (nI gd)), (9, .int (nI (nsS (B.1 k)))), (4, .int (nI (nn (B.1 k) 2))), (3, .int (nI (nn (B.1 k) 6))), (2, .int (nI (nn (B.1 k) 1))), (0, .ref be), (1, .int (nI k))] → W p l e ({ frames := 4, cells := 0, slots := 0, locals := 90 }) s m args below meth c H locs 0 0 (MQ below (va_Qi (fun r w => w = (wB kA B) ∧ (r = nI 1)) (fB D (tyL kA) A) A) args s 0 0 A) (F0 m 477 ls [.int (nI g1)]) := by
                      clear hP hD hS hl
                      intro g1 _ hg1 H locs ls hP hD hS hl
                      refine lv_iload hx hb dL_isSo_477 (lv_at hl 1 rfl) ?_
                      have jn_487 : ∀ (g2 : Nat) (_ : True), (g2 = if tw = 1 then 2 else 0) → ∀ (H : Heap) (locs : List Loc) (ls : Array Slot), va_P D vwCl (wB kA B) H → va_D A (wB kA B) → va_S A s.heap H locs → lv_has ls 18 [(13, .int (nI i)), (12, .int (nI tw)), (11, .int (nI at9)), (10, .int (nI gd)), (9, .int (nI (nsS (B.1 k)))), (4, .int (nI (nn (B.1 k) 2))), (3, .int (nI (nn (B.1 k) 6))), (2, .int (nI (nn (B.1 k) 1))), (0, .ref be), (1, .int (nI k))] → W p l e ({ frames := 4, cells := 0, slots := 0, locals := 90 }) s m args below meth c H locs 0 0 (MQ below (va_Qi (fun r w => w = (wB kA B) ∧ (r = nI 1)) (fB D (tyL kA) A) A) args s 0 0 A) (F0 m 487 ls [.int (nI g2), .int (nI g1)]) := by
                        clear hP hD hS hl
                        intro g2 _ hg2 H locs ls hP hD hS hl
                        refine lv_iadd hx hb dL_isSo_487 ?_
                        rw [nI_add g1 g2]
                        refine lv_iload hx hb dL_isSo_488 (lv_at hl 5 rfl) ?_
                        have jn_498 : ∀ (g3 : Nat) (_ : True), (g3 = if 0 < nn (B.1 k) 2 then 4 else 0) → ∀ (H : Heap) (locs : List Loc) (ls : Array Slot), va_P D vwCl (wB kA B) H → va_D A (wB kA B) → va_S A s.heap H locs → lv_has ls 18 [(13, .int (nI i)), (12, .int (nI tw)), (11, .int (nI at9)), (10, .int (nI gd)), (9, .int (nI (nsS (B.1 k)))), (4, .int (nI (nn (B.1 k) 2))), (3, .int (nI (nn (B.1 k) 6))), (2, .int (nI (nn (B.1 k) 1))), (0, .ref be), (1, .int (nI k))] → W p l e ({ frames := 4, cells := 0, slots := 0, locals := 90 }) s m args below meth c H locs 0 0 (MQ below (va_Qi (fun r w => w = (wB kA B) ∧ (r = nI 1)) (fB D (tyL kA) A) A) args s 0 0 A) (F0 m 498 ls [.int (nI g3), .int (nI (g1 + g2))]) := by
                          clear hP hD hS hl
                          intro g3 _ hg3 H locs ls hP hD hS hl
                          refine lv_iadd hx hb dL_isSo_498 ?_
                          rw [nI_add (g1 + g2) g3]
                          refine lv_aload_n hx hb dL_isSo_499 rfl (lv_at hl 8 rfl) ?_
                          refine lv_iload_n hx hb dL_isSo_500 rfl (lv_at hl 9 rfl) ?_
                          refine lv_bipush (v := nI 7) hx hb dL_isSo_501 (by decide) ?_
                          have hF := chF [] hD hS hA
                          refine va_calli (va_runV (As := [.int (nI k), .int (nI 7)]) (rest := [.int (nI (g1 + g2 + g3))]) ⟨hx, hb, hml, hown, hts⟩ (c_X6_ofTrack_B7 l D kA z B be k (by first | assumption | omega) (by first | assumption | omega) (by first | assumption | omega) _) (cwV 2 hts h_L_isSo_6 rfl rfl rfl (by decide +kernel) ⟨Nat.le_of_ble_eq_true rfl, Nat.le_of_ble_eq_true rfl⟩) (fPvB [] (hbe) hK hP hD hS hG hF) rfl rfl hl.1 rfl (lv_room (Nat.le_of_ble_eq_true rfl)) dL_isSo_503 ⟨Nat.le_of_ble_eq_true rfl, Nat.le_of_ble_eq_true rfl⟩) hS (fun q _ h => hF q h) hF (fun r_7 w1 t H locs ht hvm hw hB hz1 hk1 hS => ?_)
                          obtain ⟨hP, hD⟩ := chJ [] hP hD hk1 hF ht hB
                          try dsimp only at hw
                          obtain ⟨rfl, e_7⟩ := hw
                          replace e_7 := e_7.symm
                          subst e_7
                          have hP : va_P D vwCl (wB kA B) H := hP
                          have hD : va_D A (wB kA B) := hD
                          have jn_515 : ∀ (g4 : Nat) (_ : True), (g4 = if 0 < stS (B.1 k) then 8 else 0) → ∀ (H : Heap) (locs : List Loc) (ls : Array Slot), va_P D vwCl (wB kA B) H → va_D A (wB kA B) → va_S A s.heap H locs → lv_has ls 18 [(13, .int (nI i)), (12, .int (nI tw)), (11, .int (nI at9)), (10, .int (nI gd)), (9, .int (nI (nsS (B.1 k)))), (4, .int (nI (nn (B.1 k) 2))), (3, .int (nI (nn (B.1 k) 6))), (2, .int (nI (nn (B.1 k) 1))), (0, .ref be), (1, .int (nI k))] → W p l e ({ frames := 4, cells := 0, slots := 0, locals := 90 }) s m args below meth c H locs 0 0 (MQ below (va_Qi (fun r w => w = (wB kA B) ∧ (r = nI 1)) (fB D (tyL kA) A) A) args s 0 0 A) (F0 m 515 ls [.int (nI g4), .int (nI (g1 + g2 + g3))]) := by
                            clear hP hD hS hl
                            intro g4 _ hg4 H locs ls hP hD hS hl
                            refine lv_iadd hx hb dL_isSo_515 ?_
                            rw [nI_add (g1 + g2 + g3) g4]
                            refine lv_bipush (v := nI 16) hx hb dL_isSo_516 (by decide) ?_
                            refine lv_aload_n hx hb dL_isSo_518 rfl (lv_at hl 8 rfl) ?_
                            refine lv_iload_n hx hb dL_isSo_519 rfl (lv_at hl 9 rfl) ?_
                            refine lv_bipush (v := nI 8) hx hb dL_isSo_520 (by decide) ?_
                            have hF := chF [] hD hS hA
                            refine va_calli (va_runV (As := [.int (nI k), .int (nI 8)]) (rest := [.int (nI 16), .int (nI (g1 + g2 + g3 + g4))]) ⟨hx, hb, hml, hown, hts⟩ (c_X6_ofTrack_B8 l D kA z B be k (by first | assumption | omega) (by first | assumption | omega) (by first | assumption | omega) _) (cwV 2 hts h_L_isSo_7 rfl rfl rfl (by decide +kernel) ⟨Nat.le_of_ble_eq_true rfl, Nat.le_of_ble_eq_true rfl⟩) (fPvB [] (hbe) hK hP hD hS hG hF) rfl rfl hl.1 rfl (lv_room (Nat.le_of_ble_eq_true rfl)) dL_isSo_522 ⟨Nat.le_of_ble_eq_true rfl, Nat.le_of_ble_eq_true rfl⟩) hS (fun q _ h => hF q h) hF (fun r_8 w1 t H locs ht hvm hw hB hz1 hk1 hS => ?_)
                            obtain ⟨hP, hD⟩ := chJ [] hP hD hk1 hF ht hB
                            try dsimp only at hw
                            obtain ⟨rfl, e_8⟩ := hw
                            replace e_8 := e_8.symm
                            subst e_8
                            have hP : va_P D vwCl (wB kA B) H := hP
                            have hD : va_D A (wB kA B) := hD
                            refine lv_imul hx hb dL_isSo_525 ?_
                            rw [pk_mul 16 (cuS (B.1 k))]
                            refine lv_iadd hx hb dL_isSo_526 ?_
                            rw [nI_add (g1 + g2 + g3 + g4) (16 * (cuS (B.1 k)))]
                            refine lv_iload_n hx hb dL_isSo_527 rfl (lv_at hl 6 rfl) ?_
                            refine lv_sipush (v := nI 300) hx hb dL_isSo_528 (by decide) ?_
                            have jn_540 : ∀ (g6 : Nat) (_ : True), (g6 = if 300 < nn (B.1 k) 6 then 32 else 0) → ∀ (H : Heap) (locs : List Loc) (ls : Array Slot), va_P D vwCl (wB kA B) H → va_D A (wB kA B) → va_S A s.heap H locs → lv_has ls 18 [(13, .int (nI i)), (12, .int (nI tw)), (11, .int (nI at9)), (10, .int (nI gd)), (9, .int (nI (nsS (B.1 k)))), (4, .int (nI (nn (B.1 k) 2))), (3, .int (nI (nn (B.1 k) 6))), (2, .int (nI (nn (B.1 k) 1))), (0, .ref be), (1, .int (nI k))] → W p l e ({ frames := 4, cells := 0, slots := 0, locals := 90 }) s m args below meth c H locs 0 0 (MQ below (va_Qi (fun r w => w = (wB kA B) ∧ (r = nI 1)) (fB D (tyL kA) A) A) args s 0 0 A) (F0 m 540 ls [.int (nI g6), .int (nI (g1 + g2 + g3 + g4 + (16 * (cuS (B.1 k)))))]) := by
                              clear hP hD hS hl
                              intro g6 _ hg6 H locs ls hP hD hS hl
                              refine lv_iadd hx hb dL_isSo_540 ?_
                              rw [nI_add (g1 + g2 + g3 + g4 + (16 * (cuS (B.1 k)))) g6]
                              have hgS : gdS (B.1 k) = g1 + g2 + g3 + g4 + 16 * cuS (B.1 k) + g6 := by rw [gdS_eq, ← hgN, ← htN, ← hg1, ← hg2, ← hg3, ← hg4, ← hg6]; rcases (show cuS (B.1 k) = 0 ∨ cuS (B.1 k) = 1 by omega) with h | h <;> rw [h] <;> rfl
                              have hg1b : g1 ≤ 1 := by rw [hg1]; split <;> omega
                              have hg2b : g2 ≤ 2 := by rw [hg2]; split <;> omega
                              have hg3b : g3 ≤ 4 := by rw [hg3]; split <;> omega
                              have hg4b : g4 ≤ 8 := by rw [hg4]; split <;> omega
                              have hg6b : g6 ≤ 32 := by rw [hg6]; split <;> omega
                              refine lv_istore (lv' := [(13, .int (nI (g1 + g2 + g3 + g4 + (16 * (cuS (B.1 k))) + g6))), (12, .int (nI tw)), (11, .int (nI at9)), (10, .int (nI gd)), (9, .int (nI (nsS (B.1 k)))), (4, .int (nI (nn (B.1 k) 2))), (3, .int (nI (nn (B.1 k) 6))), (2, .int (nI (nn (B.1 k) 1))), (0, .ref be), (1, .int (nI k))]) hx hb dL_isSo_541 hl (by decide) rfl (fun ls hl => ?_)
                              refine lv_aload_n hx hb dL_isSo_543 rfl (lv_at hl 8 rfl) ?_
                              refine lv_iload_n hx hb dL_isSo_544 rfl (lv_at hl 9 rfl) ?_
                              have hF := chF [] hD hS hA
                              refine va_calli (va_runV (As := [.int (nI k)]) (rest := []) ⟨hx, hb, hml, hown, hts⟩ (c_X6_plainLong_B l D kA z B be k (by first | assumption | omega) (by first | assumption | omega) (by first | assumption | omega) _) (cwV 1 hts h_L_isSo_8 rfl rfl rfl (by decide +kernel) ⟨Nat.le_of_ble_eq_true rfl, Nat.le_of_ble_eq_true rfl⟩) (fPvB [] (hbe) hK hP hD hS hG hF) rfl rfl hl.1 rfl (lv_room (Nat.le_of_ble_eq_true rfl)) dL_isSo_545 ⟨Nat.le_of_ble_eq_true rfl, Nat.le_of_ble_eq_true rfl⟩) hS (fun q _ h => hF q h) hF (fun r_9 w1 t H locs ht hvm hw hB hz1 hk1 hS => ?_)
                              obtain ⟨hP, hD⟩ := chJ [] hP hD hk1 hF ht hB
                              try dsimp only at hw
                              obtain ⟨rfl, e_9⟩ := hw
                              replace e_9 := e_9.symm
                              subst e_9
                              have hP : va_P D vwCl (wB kA B) H := hP
                              have hD : va_D A (wB kA B) := hD
                              refine lv_istore (lv' := [(14, .int (nI (plS (B.1 k)))), (13, .int (nI (g1 + g2 + g3 + g4 + (16 * (cuS (B.1 k))) + g6))), (12, .int (nI tw)), (11, .int (nI at9)), (10, .int (nI gd)), (9, .int (nI (nsS (B.1 k)))), (4, .int (nI (nn (B.1 k) 2))), (3, .int (nI (nn (B.1 k) 6))), (2, .int (nI (nn (B.1 k) 1))), (0, .ref be), (1, .int (nI k))]) hx hb dL_isSo_548 hl (by decide) rfl (fun ls hl => ?_)
                              refine lv_aload_n hx hb dL_isSo_550 rfl (lv_at hl 9 rfl) ?_
                              refine lv_iload_n hx hb dL_isSo_551 rfl (lv_at hl 10 rfl) ?_
                              refine lv_bipush (v := nI 6) hx hb dL_isSo_552 (by decide) ?_
                              have hF := chF [] hD hS hA
                              refine va_calli (va_runV (As := [.int (nI k), .int (nI 6)]) (rest := []) ⟨hx, hb, hml, hown, hts⟩ (c_X6_ofTrack_B6 l D kA z B be k (by first | assumption | omega) (by first | assumption | omega) (by first | assumption | omega) _) (cwV 2 hts h_L_isSo_9 rfl rfl rfl (by decide +kernel) ⟨Nat.le_of_ble_eq_true rfl, Nat.le_of_ble_eq_true rfl⟩) (fPvB [] (hbe) hK hP hD hS hG hF) rfl rfl hl.1 rfl (lv_room (Nat.le_of_ble_eq_true rfl)) dL_isSo_554 ⟨Nat.le_of_ble_eq_true rfl, Nat.le_of_ble_eq_true rfl⟩) hS (fun q _ h => hF q h) hF (fun r_10 w1 t H locs ht hvm hw hB hz1 hk1 hS => ?_)
                              obtain ⟨hP, hD⟩ := chJ [] hP hD hk1 hF ht hB
                              try dsimp only at hw
                              obtain ⟨rfl, e_10⟩ := hw
                              replace e_10 := e_10.symm
                              subst e_10
                              have hP : va_P D vwCl (wB kA B) H := hP
                              have hD : va_D A (wB kA B) := hD
                              refine lv_iload hx hb dL_isSo_557 (lv_at hl 4 rfl) ?_
                              refine lv_icmp_ne (tgt := 638) hx hb dL_isSo_559 (by decide) (fun c559 => False.elim (by rw [qeq (a := (ngS (B.1 k))) (b := gd) (by omega) (by omega)] at c559; omega)) (fun _ => ?_)
                              refine lv_aload_n hx hb dL_isSo_562 rfl (lv_at hl 9 rfl) ?_
                              refine lv_iload_n hx hb dL_isSo_563 rfl (lv_at hl 10 rfl) ?_
                              refine lv_bipush (v := nI 9) hx hb dL_isSo_564 (by decide) ?_
                              have hF := chF [] hD hS hA
                              refine va_calli (va_runV (As := [.int (nI k), .int (nI 9)]) (rest := []) ⟨hx, hb, hml, hown, hts⟩ (c_X6_ofTrack_B9 l D kA z B be k (by first | assumption | omega) (by first | assumption | omega) (by first | assumption | omega) _) (cwV 2 hts h_L_isSo_10 rfl rfl rfl (by decide +kernel) ⟨Nat.le_of_ble_eq_true rfl, Nat.le_of_ble_eq_true rfl⟩) (fPvB [] (hbe) hK hP hD hS hG hF) rfl rfl hl.1 rfl (lv_room (Nat.le_of_ble_eq_true rfl)) dL_isSo_566 ⟨Nat.le_of_ble_eq_true rfl, Nat.le_of_ble_eq_true rfl⟩) hS (fun q _ h => hF q h) hF (fun r_11 w1 t H locs ht hvm hw hB hz1 hk1 hS => ?_)
                              obtain ⟨hP, hD⟩ := chJ [] hP hD hk1 hF ht hB
                              try dsimp only at hw
                              obtain ⟨rfl, e_11⟩ := hw
                              replace e_11 := e_11.symm
                              subst e_11
                              have hP : va_P D vwCl (wB kA B) H := hP
                              have hD : va_D A (wB kA B) := hD
                              refine lv_iload hx hb dL_isSo_569 (lv_at hl 1 rfl) ?_
                              refine lv_icmp_ne (tgt := 638) hx hb dL_isSo_571 (by decide) (fun c571 => False.elim (by rw [qeq (a := (gdS (B.1 k))) (b := (g1 + g2 + g3 + g4 + (16 * (cuS (B.1 k))) + g6)) (by omega) (by omega)] at c571; omega)) (fun _ => ?_)
                              refine lv_aload_n hx hb dL_isSo_574 rfl (lv_at hl 9 rfl) ?_
                              refine lv_iload_n hx hb dL_isSo_575 rfl (lv_at hl 10 rfl) ?_
                              have hF := chF [] hD hS hA
                              refine va_calli (va_runV (As := [.int (nI k)]) (rest := []) ⟨hx, hb, hml, hown, hts⟩ (c_X6_wouldLose_B l D kA z B be k (by first | assumption | omega) (by first | assumption | omega) (by first | assumption | omega) _) (cwV 1 hts h_L_isSo_11 rfl rfl rfl (by decide +kernel) ⟨Nat.le_of_ble_eq_true rfl, Nat.le_of_ble_eq_true rfl⟩) (fPvB [] (hbe) hK hP hD hS hG hF) rfl rfl hl.1 rfl (lv_room (Nat.le_of_ble_eq_true rfl)) dL_isSo_576 ⟨Nat.le_of_ble_eq_true rfl, Nat.le_of_ble_eq_true rfl⟩) hS (fun q _ h => hF q h) hF (fun r_12 w1 t H locs ht hvm hw hB hz1 hk1 hS => ?_)
                              obtain ⟨hP, hD⟩ := chJ [] hP hD hk1 hF ht hB
                              try dsimp only at hw
                              obtain ⟨rfl, e_12⟩ := hw
                              have hP : va_P D vwCl (wB kA B) H := hP
                              have hD : va_D A (wB kA B) := hD
                              have hwl := e_12
                              refine lv_iload hx hb dL_isSo_579 (lv_at hl 1 rfl) ?_
                              refine lv_iconst (v := -1) hx hb dL_isSo_581 (by decide) ?_
                              refine lv_ixor hx hb dL_isSo_582 ?_
                              refine lv_iand hx hb dL_isSo_583 ?_
                              refine lv_if_ne (tgt := 638) hx hb dL_isSo_584 (by decide) (fun c584 => absurd (by rw [hwl, ← hgS]; exact wl_0) c584) (fun _ => ?_)
                              refine lv_aload_n hx hb dL_isSo_587 rfl (lv_at hl 9 rfl) ?_
                              refine lv_iload_n hx hb dL_isSo_588 rfl (lv_at hl 10 rfl) ?_
                              refine lv_aload_n hx hb dL_isSo_589 rfl (lv_at hl 9 rfl) ?_
                              refine lv_iload_n hx hb dL_isSo_590 rfl (lv_at hl 10 rfl) ?_
                              refine lv_iconst (v := nI 0) hx hb dL_isSo_591 (by decide) ?_
                              have hF := chF [] hD hS hA
                              refine va_calli (va_runV (As := [.int (nI k), .int (nI 0)]) (rest := [.int (nI k), .ref be]) ⟨hx, hb, hml, hown, hts⟩ (c_X6_ofTrack_B0 l D kA z B be k (by first | assumption | omega) (by first | assumption | omega) (by first | assumption | omega) _) (cwV 2 hts h_L_isSo_12 rfl rfl rfl (by decide +kernel) ⟨Nat.le_of_ble_eq_true rfl, Nat.le_of_ble_eq_true rfl⟩) (fPvB [] (hbe) hK hP hD hS hG hF) rfl rfl hl.1 rfl (lv_room (Nat.le_of_ble_eq_true rfl)) dL_isSo_592 ⟨Nat.le_of_ble_eq_true rfl, Nat.le_of_ble_eq_true rfl⟩) hS (fun q _ h => hF q h) hF (fun r_13 w1 t H locs ht hvm hw hB hz1 hk1 hS => ?_)
                              obtain ⟨hP, hD⟩ := chJ [] hP hD hk1 hF ht hB
                              try dsimp only at hw
                              obtain ⟨rfl, e_13⟩ := hw
                              replace e_13 := e_13.symm
                              subst e_13
                              have hP : va_P D vwCl (wB kA B) H := hP
                              have hD : va_D A (wB kA B) := hD
                              have hF := chF [] hD hS hA
                              refine va_calli (va_runV (As := [.int (nI k), .int (nI (nn (B.1 k) 0))]) (rest := []) ⟨hx, hb, hml, hown, hts⟩ (c_X6_goodBy_B l D kA z B be k (nn (B.1 k) 0) (by first | assumption | omega) (by first | assumption | omega) (by first | assumption | omega) (by first | assumption | omega) _) (cwV 2 hts h_L_isSo_13 rfl rfl rfl (by decide +kernel) ⟨Nat.le_of_ble_eq_true rfl, Nat.le_of_ble_eq_true rfl⟩) (fPvB [] (hbe) hK hP hD hS hG hF) rfl rfl hl.1 rfl (lv_room (Nat.le_of_ble_eq_true rfl)) dL_isSo_595 ⟨Nat.le_of_ble_eq_true rfl, Nat.le_of_ble_eq_true rfl⟩) hS (fun q _ h => hF q h) hF (fun r_14 w1 t H locs ht hvm hw hB hz1 hk1 hS => ?_)
                              obtain ⟨hP, hD⟩ := chJ [] hP hD hk1 hF ht hB
                              try dsimp only at hw
                              obtain ⟨rfl, e_14⟩ := hw
                              replace e_14 := e_14.symm
                              subst e_14
                              have hP : va_P D vwCl (wB kA B) H := hP
                              have hD : va_D A (wB kA B) := hD
                              refine lv_iload hx hb dL_isSo_598 (lv_at hl 4 rfl) ?_
                              have hgo : ow (nn (B.1 k) 0) (nn (B.1 k) 14) (nn (B.1 k) 8) = gd := by rw [hgN]; rfl
                              refine lv_icmp_ne (tgt := 638) hx hb dL_isSo_600 (by decide) (fun c600 => False.elim (by rw [qeq (a := (ow (nn (B.1 k) 0) (nn (B.1 k) 14) (nn (B.1 k) 8))) (b := gd) (by omega) (by omega)] at c600; omega)) (fun _ => ?_)
                              refine lv_iload hx hb dL_isSo_603 (lv_at hl 0 rfl) ?_
                              refine lv_sipush (v := nI 400) hx hb dL_isSo_605 (by decide) ?_
                              refine lv_icmp_gt (tgt := 638) hx hb dL_isSo_608 (by decide) (fun c608 => False.elim (by rw [qlt (a := 400) (b := (plS (B.1 k))) (by omega) (by omega)] at c608; omega)) (fun _ => ?_)
                              refine lv_iload hx hb dL_isSo_611 (lv_at hl 0 rfl) ?_
                              have jn_621 : ∀ (x1 : Nat) (_ : True), (x1 = if 0 < plS (B.1 k) then 1 else 0) → ∀ (H : Heap) (locs : List Loc) (ls : Array Slot), va_P D vwCl (wB kA B) H → va_D A (wB kA B) → va_S A s.heap H locs → lv_has ls 18 [(14, .int (nI (plS (B.1 k)))), (13, .int (nI (g1 + g2 + g3 + g4 + (16 * (cuS (B.1 k))) + g6))), (12, .int (nI tw)), (11, .int (nI at9)), (10, .int (nI gd)), (9, .int (nI (nsS (B.1 k)))), (4, .int (nI (nn (B.1 k) 2))), (3, .int (nI (nn (B.1 k) 6))), (2, .int (nI (nn (B.1 k) 1))), (0, .ref be), (1, .int (nI k))] → W p l e ({ frames := 4, cells := 0, slots := 0, locals := 90 }) s m args below meth c H locs 0 0 (MQ below (va_Qi (fun r w => w = (wB kA B) ∧ (r = nI 1)) (fB D (tyL kA) A) A) args s 0 0 A) (F0 m 621 ls [.int (nI x1)]) := by
                                clear hP hD hS hl
                                intro x1 _ hx1 H locs ls hP hD hS hl
                                refine lv_iload hx hb dL_isSo_621 (lv_at hl 4 rfl) ?_
                                have jn_631 : ∀ (x2 : Nat) (_ : True), (x2 = if 0 < gd then 1 else 0) → ∀ (H : Heap) (locs : List Loc) (ls : Array Slot), va_P D vwCl (wB kA B) H → va_D A (wB kA B) → va_S A s.heap H locs → lv_has ls 18 [(14, .int (nI (plS (B.1 k)))), (13, .int (nI (g1 + g2 + g3 + g4 + (16 * (cuS (B.1 k))) + g6))), (12, .int (nI tw)), (11, .int (nI at9)), (10, .int (nI gd)), (9, .int (nI (nsS (B.1 k)))), (4, .int (nI (nn (B.1 k) 2))), (3, .int (nI (nn (B.1 k) 6))), (2, .int (nI (nn (B.1 k) 1))), (0, .ref be), (1, .int (nI k))] → W p l e ({ frames := 4, cells := 0, slots := 0, locals := 90 }) s m args below meth c H locs 0 0 (MQ below (va_Qi (fun r w => w = (wB kA B) ∧ (r = nI 1)) (fB D (tyL kA) A) A) args s 0 0 A) (F0 m 631 ls [.int (nI x2), .int (nI x1)]) := by
                                  clear hP hD hS hl
                                  intro x2 _ hx2 H locs ls hP hD hS hl
                                  have hxx : x1 = x2 ∧ x1 ≤ 1 := by exact x12 hplg hx1 (by rw [hx2, hgN])
                                  refine lv_icmp_ne (tgt := 638) hx hb dL_isSo_631 (by decide) (fun c631 => False.elim (by rw [qeq (a := x1) (b := x2) (by omega) (by omega)] at c631; omega)) (fun _ => ?_)
                                  refine lv_iconst (v := nI 1) hx hb dL_isSo_634 (by decide) ?_
                                  refine lv_goto (tgt := 639) hx hb dL_isSo_635 (by decide) ?_
                                  exact endZ hx hb hr hlocks (rfl) hK hP hD hS (⟨rfl, by first | rfl | assumption | omega | (rw [if_pos (by omega)]; first | done | rfl) | (rw [if_neg (by omega)]; first | done | rfl)⟩) (Nat.le_of_ble_eq_true rfl) (Nat.le_of_ble_eq_true rfl) dL_isSo_639
                                refine lv_if_le (tgt := 630) hx hb dL_isSo_623 (by decide) (fun c623 => ?_) (fun c623 => ?_)
                                ·
                                  rw [qnp (a := gd) (by omega)] at c623
                                  refine lv_iconst (v := nI 0) hx hb dL_isSo_630 (by decide) ?_
                                  exact jn_631 0 trivial (by first | rw [if_pos (by omega)] | rw [if_neg (by omega)]) _ _ _ hP hD hS (lv_sub hl [0, 1, 2, 3, 4, 5, 6, 7, 8, 9, 10] rfl)
                                ·
                                  rw [qnp (a := gd) (by omega)] at c623
                                  refine lv_iconst (v := nI 1) hx hb dL_isSo_626 (by decide) ?_
                                  refine lv_goto (tgt := 631) hx hb dL_isSo_627 (by decide) ?_
                                  exact jn_631 1 trivial (by first | rw [if_pos (by omega)] | rw [if_neg (by omega)]) _ _ _ hP hD hS (lv_sub hl [0, 1, 2, 3, 4, 5, 6, 7, 8, 9, 10] rfl)
                              refine lv_if_le (tgt := 620) hx hb dL_isSo_613 (by decide) (fun c613 => ?_) (fun c613 => ?_)
                              ·
                                rw [qnp (a := (plS (B.1 k))) (by omega)] at c613
                                refine lv_iconst (v := nI 0) hx hb dL_isSo_620 (by decide) ?_
                                exact jn_621 0 trivial (by first | rw [if_pos (by omega)] | rw [if_neg (by omega)]) _ _ _ hP hD hS (lv_sub hl [0, 1, 2, 3, 4, 5, 6, 7, 8, 9, 10] rfl)
                              ·
                                rw [qnp (a := (plS (B.1 k))) (by omega)] at c613
                                refine lv_iconst (v := nI 1) hx hb dL_isSo_616 (by decide) ?_
                                refine lv_goto (tgt := 621) hx hb dL_isSo_617 (by decide) ?_
                                exact jn_621 1 trivial (by first | rw [if_pos (by omega)] | rw [if_neg (by omega)]) _ _ _ hP hD hS (lv_sub hl [0, 1, 2, 3, 4, 5, 6, 7, 8, 9, 10] rfl)
                            refine lv_icmp_le (tgt := 539) hx hb dL_isSo_531 (by decide) (fun c531 => ?_) (fun c531 => ?_)
                            ·
                              rw [qle (a := (nn (B.1 k) 6)) (b := 300) (by omega) (by omega)] at c531
                              refine lv_iconst (v := nI 0) hx hb dL_isSo_539 (by decide) ?_
                              exact jn_540 0 trivial (by first | rw [if_pos (by omega)] | rw [if_neg (by omega)]) _ _ _ hP hD hS (lv_sub hl [0, 1, 2, 3, 4, 5, 6, 7, 8, 9] rfl)
                            ·
                              rw [qle (a := (nn (B.1 k) 6)) (b := 300) (by omega) (by omega)] at c531
                              refine lv_bipush (v := nI 32) hx hb dL_isSo_534 (by decide) ?_
                              refine lv_goto (tgt := 540) hx hb dL_isSo_536 (by decide) ?_
                              exact jn_540 32 trivial (by first | rw [if_pos (by omega)] | rw [if_neg (by omega)]) _ _ _ hP hD hS (lv_sub hl [0, 1, 2, 3, 4, 5, 6, 7, 8, 9] rfl)
                          refine lv_if_le (tgt := 514) hx hb dL_isSo_506 (by decide) (fun c506 => ?_) (fun c506 => ?_)
                          ·
                            rw [qnp (a := (stS (B.1 k))) (by omega)] at c506
                            refine lv_iconst (v := nI 0) hx hb dL_isSo_514 (by decide) ?_
                            exact jn_515 0 trivial (by first | rw [if_pos (by omega)] | rw [if_neg (by omega)]) _ _ _ hP hD hS (lv_sub hl [0, 1, 2, 3, 4, 5, 6, 7, 8, 9] rfl)
                          ·
                            rw [qnp (a := (stS (B.1 k))) (by omega)] at c506
                            refine lv_bipush (v := nI 8) hx hb dL_isSo_509 (by decide) ?_
                            refine lv_goto (tgt := 515) hx hb dL_isSo_511 (by decide) ?_
                            exact jn_515 8 trivial (by first | rw [if_pos (by omega)] | rw [if_neg (by omega)]) _ _ _ hP hD hS (lv_sub hl [0, 1, 2, 3, 4, 5, 6, 7, 8, 9] rfl)
                        refine lv_if_le (tgt := 497) hx hb dL_isSo_490 (by decide) (fun c490 => ?_) (fun c490 => ?_)
                        ·
                          rw [qnp (a := (nn (B.1 k) 2)) (by omega)] at c490
                          refine lv_iconst (v := nI 0) hx hb dL_isSo_497 (by decide) ?_
                          exact jn_498 0 trivial (by first | rw [if_pos (by omega)] | rw [if_neg (by omega)]) _ _ _ hP hD hS (lv_sub hl [0, 1, 2, 3, 4, 5, 6, 7, 8, 9] rfl)
                        ·
                          rw [qnp (a := (nn (B.1 k) 2)) (by omega)] at c490
                          refine lv_iconst (v := nI 4) hx hb dL_isSo_493 (by decide) ?_
                          refine lv_goto (tgt := 498) hx hb dL_isSo_494 (by decide) ?_
                          exact jn_498 4 trivial (by first | rw [if_pos (by omega)] | rw [if_neg (by omega)]) _ _ _ hP hD hS (lv_sub hl [0, 1, 2, 3, 4, 5, 6, 7, 8, 9] rfl)
                      refine lv_if_eq (tgt := 486) hx hb dL_isSo_479 (by decide) (fun c479 => ?_) (fun c479 => ?_)
                      ·
                        rw [qz (a := tw) (by omega)] at c479
                        refine lv_iconst (v := nI 0) hx hb dL_isSo_486 (by decide) ?_
                        exact jn_487 0 trivial (by first | rw [if_pos (by omega)] | rw [if_neg (by omega)]) _ _ _ hP hD hS (lv_sub hl [0, 1, 2, 3, 4, 5, 6, 7, 8, 9] rfl)
                      ·
                        rw [qz (a := tw) (by omega)] at c479
                        refine lv_iconst (v := nI 2) hx hb dL_isSo_482 (by decide) ?_
                        refine lv_goto (tgt := 487) hx hb dL_isSo_483 (by decide) ?_
                        exact jn_487 2 trivial (by first | rw [if_pos (by omega)] | rw [if_neg (by omega)]) _ _ _ hP hD hS (lv_sub hl [0, 1, 2, 3, 4, 5, 6, 7, 8, 9] rfl)
                    refine lv_icmp_le (tgt := 476) hx hb dL_isSo_469 (by decide) (fun c469 => ?_) (fun c469 => ?_)
                    ·
                      rw [qle (a := (nsS (B.1 k))) (b := gd) (by omega) (by omega)] at c469
                      refine lv_iconst (v := nI 0) hx hb dL_isSo_476 (by decide) ?_
                      exact jn_477 0 trivial (by first | rw [if_pos (by omega)] | rw [if_neg (by omega)]) _ _ _ hP hD hS (lv_sub hl [0, 1, 2, 3, 4, 5, 6, 7, 8, 9] rfl)
                    ·
                      rw [qle (a := (nsS (B.1 k))) (b := gd) (by omega) (by omega)] at c469
                      refine lv_iconst (v := nI 1) hx hb dL_isSo_472 (by decide) ?_
                      refine lv_goto (tgt := 477) hx hb dL_isSo_473 (by decide) ?_
                      exact jn_477 1 trivial (by first | rw [if_pos (by omega)] | rw [if_neg (by omega)]) _ _ _ hP hD hS (lv_sub hl [0, 1, 2, 3, 4, 5, 6, 7, 8, 9] rfl)
                  ·
                    rw [qle (a := (nsS (B.1 k))) (b := i) (by omega) (by omega)] at c244
                    obtain ⟨q9, u9, hq1, hq2, hq3, hq4, hq5, hq6, hq7, hq8, hq9, hq10, ⟨b9, hb9, hq11⟩, hq12, hq13⟩ := hsO i (by omega)
                    rw [hcxB] at hq6
                    refine lv_aload_n hx hb dL_isSo_247 rfl (lv_at hl 8 rfl) ?_
                    refine lv_iload_n hx hb dL_isSo_248 rfl (lv_at hl 9 rfl) ?_
                    refine lv_iload hx hb dL_isSo_249 (lv_at hl 0 rfl) ?_
                    refine lv_iconst (v := nI 0) hx hb dL_isSo_251 (by decide) ?_
                    have hF := chF [] hD hS hA
                    refine va_calli (va_runV (As := [.int (nI k), .int (nI i), .int (nI 0)]) (rest := []) ⟨hx, hb, hml, hown, hts⟩ (c_X6_ofSector_B l D kA z B be k i 0 (by first | assumption | omega) (by first | assumption | omega) (by first | assumption | omega) (by first | assumption | omega) (by first | assumption | omega) _) (cwV 3 hts h_L_isSo_14 rfl rfl rfl (by decide +kernel) ⟨Nat.le_of_ble_eq_true rfl, Nat.le_of_ble_eq_true rfl⟩) (fPvB [] (hbe) hK hP hD hS hG hF) rfl rfl hl.1 rfl (lv_room (Nat.le_of_ble_eq_true rfl)) dL_isSo_252 ⟨Nat.le_of_ble_eq_true rfl, Nat.le_of_ble_eq_true rfl⟩) hS (fun q _ h => hF q h) hF (fun r_15 w1 t H locs ht hvm hw hB hz1 hk1 hS => ?_)
                    obtain ⟨hP, hD⟩ := chJ [] hP hD hk1 hF ht hB
                    try dsimp only at hw
                    obtain ⟨rfl, e_15⟩ := hw
                    have hP : va_P D vwCl (wB kA B) H := hP
                    have hD : va_D A (wB kA B) := hD
                    refine W.eq (g2 := F0 m 255 ls [.int (nI q9)]) (by rw [show r_15 = nI q9 from (e_15).trans hq1]) ?_
                    refine lv_istore (lv' := [(14, .int (nI q9)), (13, .int (nI i)), (12, .int (nI tw)), (11, .int (nI at9)), (10, .int (nI gd)), (9, .int (nI (nsS (B.1 k)))), (4, .int (nI (nn (B.1 k) 2))), (3, .int (nI (nn (B.1 k) 6))), (2, .int (nI (nn (B.1 k) 1))), (0, .ref be), (1, .int (nI k))]) hx hb dL_isSo_255 hl (by decide) rfl (fun ls hl => ?_)
                    refine lv_aload_n hx hb dL_isSo_257 rfl (lv_at hl 9 rfl) ?_
                    refine lv_iload_n hx hb dL_isSo_258 rfl (lv_at hl 10 rfl) ?_
                    refine lv_iload hx hb dL_isSo_259 (lv_at hl 1 rfl) ?_
                    refine lv_iconst (v := nI 2) hx hb dL_isSo_261 (by decide) ?_
                    have hF := chF [] hD hS hA
                    refine va_calli (va_runV (As := [.int (nI k), .int (nI i), .int (nI 2)]) (rest := []) ⟨hx, hb, hml, hown, hts⟩ (c_X6_ofSector_B l D kA z B be k i 2 (by first | assumption | omega) (by first | assumption | omega) (by first | assumption | omega) (by first | assumption | omega) (by first | assumption | omega) _) (cwV 3 hts h_L_isSo_14 rfl rfl rfl (by decide +kernel) ⟨Nat.le_of_ble_eq_true rfl, Nat.le_of_ble_eq_true rfl⟩) (fPvB [] (hbe) hK hP hD hS hG hF) rfl rfl hl.1 rfl (lv_room (Nat.le_of_ble_eq_true rfl)) dL_isSo_262 ⟨Nat.le_of_ble_eq_true rfl, Nat.le_of_ble_eq_true rfl⟩) hS (fun q _ h => hF q h) hF (fun r_16 w1 t H locs ht hvm hw hB hz1 hk1 hS => ?_)
                    obtain ⟨hP, hD⟩ := chJ [] hP hD hk1 hF ht hB
                    try dsimp only at hw
                    obtain ⟨rfl, e_16⟩ := hw
                    have hP : va_P D vwCl (wB kA B) H := hP
                    have hD : va_D A (wB kA B) := hD
                    refine W.eq (g2 := F0 m 265 ls [.int (nI u9)]) (by rw [show r_16 = nI u9 from (e_16).trans hq2]) ?_
                    refine lv_istore (lv' := [(15, .int (nI u9)), (14, .int (nI q9)), (13, .int (nI i)), (12, .int (nI tw)), (11, .int (nI at9)), (10, .int (nI gd)), (9, .int (nI (nsS (B.1 k)))), (4, .int (nI (nn (B.1 k) 2))), (3, .int (nI (nn (B.1 k) 6))), (2, .int (nI (nn (B.1 k) 1))), (0, .ref be), (1, .int (nI k))]) hx hb dL_isSo_265 hl (by decide) rfl (fun ls hl => ?_)
                    refine lv_iload hx hb dL_isSo_267 (lv_at hl 1 rfl) ?_
                    refine lv_bipush (v := nI 10) hx hb dL_isSo_269 (by decide) ?_
                    refine lv_iadd hx hb dL_isSo_271 ?_
                    rw [nI_add q9 10]
                    refine lv_iconst (v := nI 3) hx hb dL_isSo_272 (by decide) ?_
                    refine lv_iload hx hb dL_isSo_273 (lv_at hl 0 rfl) ?_
                    refine lv_iadd hx hb dL_isSo_275 ?_
                    rw [nI_add 3 u9]
                    refine lv_aload_n hx hb dL_isSo_276 rfl (lv_at hl 10 rfl) ?_
                    refine lv_iload_n hx hb dL_isSo_277 rfl (lv_at hl 11 rfl) ?_
                    refine lv_iconst (v := nI 0) hx hb dL_isSo_278 (by decide) ?_
                    have hF := chF [] hD hS hA
                    refine va_calli (va_runV (As := [.int (nI k), .int (nI 0)]) (rest := [.int (nI (3 + u9)), .int (nI (q9 + 10))]) ⟨hx, hb, hml, hown, hts⟩ (c_X6_ofTrack_B0 l D kA z B be k (by first | assumption | omega) (by first | assumption | omega) (by first | assumption | omega) _) (cwV 2 hts h_L_isSo_12 rfl rfl rfl (by decide +kernel) ⟨Nat.le_of_ble_eq_true rfl, Nat.le_of_ble_eq_true rfl⟩) (fPvB [] (hbe) hK hP hD hS hG hF) rfl rfl hl.1 rfl (lv_room (Nat.le_of_ble_eq_true rfl)) dL_isSo_279 ⟨Nat.le_of_ble_eq_true rfl, Nat.le_of_ble_eq_true rfl⟩) hS (fun q _ h => hF q h) hF (fun r_17 w1 t H locs ht hvm hw hB hz1 hk1 hS => ?_)
                    obtain ⟨hP, hD⟩ := chJ [] hP hD hk1 hF ht hB
                    try dsimp only at hw
                    obtain ⟨rfl, e_17⟩ := hw
                    replace e_17 := e_17.symm
                    subst e_17
                    have hP : va_P D vwCl (wB kA B) H := hP
                    have hD : va_D A (wB kA B) := hD
                    refine lv_iconst (v := nI 2) hx hb dL_isSo_282 (by decide) ?_
                    have jn_293 : ∀ (cb : Nat) (_ : True), (cb = cB (nn (B.1 k) 0)) → ∀ (H : Heap) (locs : List Loc) (ls : Array Slot), va_P D vwCl (wB kA B) H → va_D A (wB kA B) → va_S A s.heap H locs → lv_has ls 18 [(15, .int (nI u9)), (14, .int (nI q9)), (13, .int (nI i)), (12, .int (nI tw)), (11, .int (nI at9)), (10, .int (nI gd)), (9, .int (nI (nsS (B.1 k)))), (4, .int (nI (nn (B.1 k) 2))), (3, .int (nI (nn (B.1 k) 6))), (2, .int (nI (nn (B.1 k) 1))), (0, .ref be), (1, .int (nI k))] → W p l e ({ frames := 4, cells := 0, slots := 0, locals := 90 }) s m args below meth c H locs 0 0 (MQ below (va_Qi (fun r w => w = (wB kA B) ∧ (r = nI 1)) (fB D (tyL kA) A) A) args s 0 0 A) (F0 m 293 ls [.int (nI cb), .int (nI (3 + u9)), .int (nI (q9 + 10))]) := by
                      clear hP hD hS hl
                      intro cb _ hcb H locs ls hP hD hS hl
                      have hce : E (i + 1) = q9 + 10 + (3 + u9) * cb := by rw [hq6, Nat.add_comm 3 u9, hcb]
                      refine lv_imul hx hb dL_isSo_293 ?_
                      rw [pk_mul (3 + u9) cb]
                      refine lv_iadd hx hb dL_isSo_294 ?_
                      rw [nI_add (q9 + 10) ((3 + u9) * cb)]
                      refine lv_istore (lv' := [(16, .int (nI (q9 + 10 + ((3 + u9) * cb)))), (15, .int (nI u9)), (14, .int (nI q9)), (13, .int (nI i)), (12, .int (nI tw)), (11, .int (nI at9)), (10, .int (nI gd)), (9, .int (nI (nsS (B.1 k)))), (4, .int (nI (nn (B.1 k) 2))), (3, .int (nI (nn (B.1 k) 6))), (2, .int (nI (nn (B.1 k) 1))), (0, .ref be), (1, .int (nI k))]) hx hb dL_isSo_295 hl (by decide) rfl (fun ls hl => ?_)
                      refine lv_iload hx hb dL_isSo_297 (lv_at hl 2 rfl) ?_
                      refine lv_iload hx hb dL_isSo_299 (lv_at hl 5 rfl) ?_
                      refine lv_icmp_lt (tgt := 395) hx hb dL_isSo_301 (by decide) (fun c301 => False.elim (by rw [qlt (a := q9) (b := at9) (by omega) (by omega)] at c301; omega)) (fun _ => ?_)
                      refine lv_iload hx hb dL_isSo_304 (lv_at hl 1 rfl) ?_
                      refine lv_iconst (v := nI 1) hx hb dL_isSo_306 (by decide) ?_
                      refine lv_icmp_lt (tgt := 395) hx hb dL_isSo_307 (by decide) (fun c307 => False.elim (by rw [qlt (a := u9) (b := 1) (by omega) (by omega)] at c307; omega)) (fun _ => ?_)
                      refine lv_iload hx hb dL_isSo_310 (lv_at hl 1 rfl) ?_
                      refine lv_iconst (v := nI 4) hx hb dL_isSo_312 (by decide) ?_
                      refine lv_icmp_gt (tgt := 395) hx hb dL_isSo_313 (by decide) (fun c313 => False.elim (by rw [qlt (a := 4) (b := u9) (by omega) (by omega)] at c313; omega)) (fun _ => ?_)
                      refine lv_iload hx hb dL_isSo_316 (lv_at hl 0 rfl) ?_
                      refine lv_iload_n hx hb dL_isSo_318 rfl (lv_at hl 9 rfl) ?_
                      refine lv_icmp_gt (tgt := 395) hx hb dL_isSo_319 (by decide) (fun c319 => False.elim (by rw [qlt (a := (nn (B.1 k) 6)) (b := (q9 + 10 + ((3 + u9) * cb))) (by omega) (by omega)] at c319; omega)) (fun _ => ?_)
                      refine lv_aload_n hx hb dL_isSo_322 rfl (lv_at hl 11 rfl) ?_
                      refine lv_iload_n hx hb dL_isSo_323 rfl (lv_at hl 12 rfl) ?_
                      refine lv_iload hx hb dL_isSo_324 (lv_at hl 2 rfl) ?_
                      have hF := chF [] hD hS hA
                      refine va_calli (va_runV (As := [.int (nI k), .int (nI q9)]) (rest := []) ⟨hx, hb, hml, hown, hts⟩ (c_X6_vote_B l D kA z B be k q9 (by first | assumption | omega) (by first | assumption | omega) (by first | assumption | omega) (by first | assumption | omega) _) (cwV 2 hts h_L_isSo_15 rfl rfl rfl (by decide +kernel) ⟨Nat.le_of_ble_eq_true rfl, Nat.le_of_ble_eq_true rfl⟩) (fPvB [] (hbe) hK hP hD hS hG hF) rfl rfl hl.1 rfl (lv_room (Nat.le_of_ble_eq_true rfl)) dL_isSo_326 ⟨Nat.le_of_ble_eq_true rfl, Nat.le_of_ble_eq_true rfl⟩) hS (fun q _ h => hF q h) hF (fun r_18 w1 t H locs ht hvm hw hB hz1 hk1 hS => ?_)
                      obtain ⟨hP, hD⟩ := chJ [] hP hD hk1 hF ht hB
                      try dsimp only at hw
                      obtain ⟨rfl, e_18⟩ := hw
                      have hP : va_P D vwCl (wB kA B) H := hP
                      have hD : va_D A (wB kA B) := hD
                      have hv1 := e_18
                      refine lv_iconst (v := nI 1) hx hb dL_isSo_329 (by decide) ?_
                      refine lv_icmp_ne (tgt := 395) hx hb dL_isSo_330 (by decide) (fun c330 => absurd (hv1.trans hq8) c330) (fun _ => ?_)
                      refine lv_aload_n hx hb dL_isSo_333 rfl (lv_at hl 11 rfl) ?_
                      refine lv_iload_n hx hb dL_isSo_334 rfl (lv_at hl 12 rfl) ?_
                      refine lv_iload hx hb dL_isSo_335 (lv_at hl 2 rfl) ?_
                      refine lv_iconst (v := nI 4) hx hb dL_isSo_337 (by decide) ?_
                      refine lv_iadd hx hb dL_isSo_338 ?_
                      rw [nI_add q9 4]
                      have hF := chF [] hD hS hA
                      refine va_calli (va_runV (As := [.int (nI k), .int (nI (q9 + 4))]) (rest := []) ⟨hx, hb, hml, hown, hts⟩ (c_X6_vote_B l D kA z B be k (q9 + 4) (by first | assumption | omega) (by first | assumption | omega) (by first | assumption | omega) (by first | assumption | omega) _) (cwV 2 hts h_L_isSo_15 rfl rfl rfl (by decide +kernel) ⟨Nat.le_of_ble_eq_true rfl, Nat.le_of_ble_eq_true rfl⟩) (fPvB [] (hbe) hK hP hD hS hG hF) rfl rfl hl.1 rfl (lv_room (Nat.le_of_ble_eq_true rfl)) dL_isSo_339 ⟨Nat.le_of_ble_eq_true rfl, Nat.le_of_ble_eq_true rfl⟩) hS (fun q _ h => hF q h) hF (fun r_19 w1 t H locs ht hvm hw hB hz1 hk1 hS => ?_)
                      obtain ⟨hP, hD⟩ := chJ [] hP hD hk1 hF ht hB
                      try dsimp only at hw
                      obtain ⟨rfl, e_19⟩ := hw
                      have hP : va_P D vwCl (wB kA B) H := hP
                      have hD : va_D A (wB kA B) := hD
                      have hv2 := e_19
                      refine lv_if_ne (tgt := 395) hx hb dL_isSo_342 (by decide) (fun c342 => absurd (hv2.trans hq9) c342) (fun _ => ?_)
                      refine lv_aload_n hx hb dL_isSo_345 rfl (lv_at hl 11 rfl) ?_
                      refine lv_iload_n hx hb dL_isSo_346 rfl (lv_at hl 12 rfl) ?_
                      refine lv_iload hx hb dL_isSo_347 (lv_at hl 2 rfl) ?_
                      refine lv_bipush (v := nI 9) hx hb dL_isSo_349 (by decide) ?_
                      refine lv_iadd hx hb dL_isSo_351 ?_
                      rw [nI_add q9 9]
                      have hF := chF [] hD hS hA
                      refine va_calli (va_runV (As := [.int (nI k), .int (nI (q9 + 9))]) (rest := []) ⟨hx, hb, hml, hown, hts⟩ (c_X6_vote_B l D kA z B be k (q9 + 9) (by first | assumption | omega) (by first | assumption | omega) (by first | assumption | omega) (by first | assumption | omega) _) (cwV 2 hts h_L_isSo_15 rfl rfl rfl (by decide +kernel) ⟨Nat.le_of_ble_eq_true rfl, Nat.le_of_ble_eq_true rfl⟩) (fPvB [] (hbe) hK hP hD hS hG hF) rfl rfl hl.1 rfl (lv_room (Nat.le_of_ble_eq_true rfl)) dL_isSo_352 ⟨Nat.le_of_ble_eq_true rfl, Nat.le_of_ble_eq_true rfl⟩) hS (fun q _ h => hF q h) hF (fun r_20 w1 t H locs ht hvm hw hB hz1 hk1 hS => ?_)
                      obtain ⟨hP, hD⟩ := chJ [] hP hD hk1 hF ht hB
                      try dsimp only at hw
                      obtain ⟨rfl, e_20⟩ := hw
                      have hP : va_P D vwCl (wB kA B) H := hP
                      have hD : va_D A (wB kA B) := hD
                      have hv3 := e_20
                      refine lv_iconst (v := nI 1) hx hb dL_isSo_355 (by decide) ?_
                      refine lv_icmp_ne (tgt := 395) hx hb dL_isSo_356 (by decide) (fun c356 => absurd (hv3.trans hq10) c356) (fun _ => ?_)
                      refine lv_aload_n hx hb dL_isSo_359 rfl (lv_at hl 11 rfl) ?_
                      refine lv_iload_n hx hb dL_isSo_360 rfl (lv_at hl 12 rfl) ?_
                      refine lv_iload hx hb dL_isSo_361 (lv_at hl 3 rfl) ?_
                      refine lv_iconst (v := nI 4) hx hb dL_isSo_363 (by decide) ?_
                      refine lv_iload hx hb dL_isSo_364 (lv_at hl 1 rfl) ?_
                      refine lv_iadd hx hb dL_isSo_366 ?_
                      rw [nI_add 4 u9]
                      have hF := chF [] hD hS hA
                      refine va_calli (va_runV (As := [.int (nI k), .int (nI i), .int (nI (4 + u9))]) (rest := []) ⟨hx, hb, hml, hown, hts⟩ (c_X6_ofSector_B l D kA z B be k i (4 + u9) (by first | assumption | omega) (by first | assumption | omega) (by first | assumption | omega) (by first | assumption | omega) (by first | assumption | omega) _) (cwV 3 hts h_L_isSo_14 rfl rfl rfl (by decide +kernel) ⟨Nat.le_of_ble_eq_true rfl, Nat.le_of_ble_eq_true rfl⟩) (fPvB [] (hbe) hK hP hD hS hG hF) rfl rfl hl.1 rfl (lv_room (Nat.le_of_ble_eq_true rfl)) dL_isSo_367 ⟨Nat.le_of_ble_eq_true rfl, Nat.le_of_ble_eq_true rfl⟩) hS (fun q _ h => hF q h) hF (fun r_21 w1 t H locs ht hvm hw hB hz1 hk1 hS => ?_)
                      obtain ⟨hP, hD⟩ := chJ [] hP hD hk1 hF ht hB
                      try dsimp only at hw
                      obtain ⟨rfl, e_21⟩ := hw
                      have hP : va_P D vwCl (wB kA B) H := hP
                      have hD : va_D A (wB kA B) := hD
                      have hv4 := e_21
                      refine lv_iconst (v := -1) hx hb dL_isSo_370 (by decide) ?_
                      refine lv_icmp_lt (tgt := 395) hx hb dL_isSo_371 (by decide) (fun c371 => absurd c371 (by rw [hv4, show oSe (B.1 k) i (4 + u9) = (vS (B.1 k)) (i * 9 + 5 + (u9 - 1)) from congrArg (vS (B.1 k)) (show i * 9 + (4 + u9) = i * 9 + 5 + (u9 - 1) by omega)]; exact bQ_ge (hq12 (u9 - 1) (by omega)))) (fun _ => ?_)
                      refine lv_iload hx hb dL_isSo_374 (lv_at hl 1 rfl) ?_
                      have jn_397 : ∀  (_ : True), ∀ (H : Heap) (locs : List Loc) (ls : Array Slot), va_P D vwCl (wB kA B) H → va_D A (wB kA B) → va_S A s.heap H locs → lv_has ls 18 [(16, .int (nI (q9 + 10 + ((3 + u9) * cb)))), (15, .int (nI u9)), (14, .int (nI q9)), (13, .int (nI i)), (12, .int (nI tw)), (11, .int (nI at9)), (10, .int (nI gd)), (9, .int (nI (nsS (B.1 k)))), (4, .int (nI (nn (B.1 k) 2))), (3, .int (nI (nn (B.1 k) 6))), (2, .int (nI (nn (B.1 k) 1))), (0, .ref be), (1, .int (nI k))] → W p l e ({ frames := 4, cells := 0, slots := 0, locals := 90 }) s m args below meth c H locs 0 0 (MQ below (va_Qi (fun r w => w = (wB kA B) ∧ (r = nI 1)) (fB D (tyL kA) A) A) args s 0 0 A) (F0 m 397 ls []) := by
                        clear hP hD hS hl
                        intro  _  H locs ls hP hD hS hl
                        refine lv_iload hx hb dL_isSo_397 (lv_at hl 0 rfl) ?_
                        refine lv_istore (lv' := [(11, .int (nI (q9 + 10 + ((3 + u9) * cb)))), (16, .int (nI (q9 + 10 + ((3 + u9) * cb)))), (15, .int (nI u9)), (14, .int (nI q9)), (13, .int (nI i)), (12, .int (nI tw)), (10, .int (nI gd)), (9, .int (nI (nsS (B.1 k)))), (4, .int (nI (nn (B.1 k) 2))), (3, .int (nI (nn (B.1 k) 6))), (2, .int (nI (nn (B.1 k) 1))), (0, .ref be), (1, .int (nI k))]) hx hb dL_isSo_399 hl (by decide) rfl (fun ls hl => ?_)
                        refine lv_iload hx hb dL_isSo_401 (lv_at hl 6 rfl) ?_
                        refine lv_aload_n hx hb dL_isSo_403 rfl (lv_at hl 11 rfl) ?_
                        refine lv_iload_n hx hb dL_isSo_404 rfl (lv_at hl 12 rfl) ?_
                        refine lv_iload hx hb dL_isSo_405 (lv_at hl 4 rfl) ?_
                        refine lv_iconst (v := nI 3) hx hb dL_isSo_407 (by decide) ?_
                        have hF := chF [] hD hS hA
                        refine va_calli (va_runV (As := [.int (nI k), .int (nI i), .int (nI 3)]) (rest := [.int (nI gd)]) ⟨hx, hb, hml, hown, hts⟩ (c_X6_ofSector_B l D kA z B be k i 3 (by first | assumption | omega) (by first | assumption | omega) (by first | assumption | omega) (by first | assumption | omega) (by first | assumption | omega) _) (cwV 3 hts h_L_isSo_14 rfl rfl rfl (by decide +kernel) ⟨Nat.le_of_ble_eq_true rfl, Nat.le_of_ble_eq_true rfl⟩) (fPvB [] (hbe) hK hP hD hS hG hF) rfl rfl hl.1 rfl (lv_room (Nat.le_of_ble_eq_true rfl)) dL_isSo_408 ⟨Nat.le_of_ble_eq_true rfl, Nat.le_of_ble_eq_true rfl⟩) hS (fun q _ h => hF q h) hF (fun r_22 w1 t H locs ht hvm hw hB hz1 hk1 hS => ?_)
                        obtain ⟨hP, hD⟩ := chJ [] hP hD hk1 hF ht hB
                        try dsimp only at hw
                        obtain ⟨rfl, e_22⟩ := hw
                        have hP : va_P D vwCl (wB kA B) H := hP
                        have hD : va_D A (wB kA B) := hD
                        refine W.eq (g2 := F0 m 411 ls [.int (nI b9), .int (nI gd)]) (by rw [show r_22 = nI b9 from (e_22).trans hq11]) ?_
                        refine lv_iadd hx hb dL_isSo_411 ?_
                        rw [nI_add gd b9]
                        refine lv_istore (lv' := [(10, .int (nI (gd + b9))), (11, .int (nI (q9 + 10 + ((3 + u9) * cb)))), (16, .int (nI (q9 + 10 + ((3 + u9) * cb)))), (15, .int (nI u9)), (14, .int (nI q9)), (13, .int (nI i)), (12, .int (nI tw)), (9, .int (nI (nsS (B.1 k)))), (4, .int (nI (nn (B.1 k) 2))), (3, .int (nI (nn (B.1 k) 6))), (2, .int (nI (nn (B.1 k) 1))), (0, .ref be), (1, .int (nI k))]) hx hb dL_isSo_412 hl (by decide) rfl (fun ls hl => ?_)
                        refine lv_iconst (v := nI 0) hx hb dL_isSo_414 (by decide) ?_
                        refine lv_istore (lv' := [(17, .int (nI 0)), (10, .int (nI (gd + b9))), (11, .int (nI (q9 + 10 + ((3 + u9) * cb)))), (16, .int (nI (q9 + 10 + ((3 + u9) * cb)))), (15, .int (nI u9)), (14, .int (nI q9)), (13, .int (nI i)), (12, .int (nI tw)), (9, .int (nI (nsS (B.1 k)))), (4, .int (nI (nn (B.1 k) 2))), (3, .int (nI (nn (B.1 k) 6))), (2, .int (nI (nn (B.1 k) 1))), (0, .ref be), (1, .int (nI k))]) hx hb dL_isSo_415 hl (by decide) rfl (fun ls hl => ?_)
                        have lp_417 : ∀ (n_417 : Nat) (j : Nat) (tv : Nat), i - j < n_417 → (j ≤ i) → (tv ≤ 1) → (tv = 1 ↔ isTw (vS (B.1 k)) i ∨ ∃ x, x < j ∧ (vS (B.1 k)) (x * 9 + 1) = (vS (B.1 k)) (i * 9 + 1)) → ∀ (H : Heap) (locs : List Loc) (ls : Array Slot), va_P D vwCl (wB kA B) H → va_D A (wB kA B) → va_S A s.heap H locs → lv_has ls 18 [(17, .int (nI j)), (12, .int (nI tv)), (10, .int (nI (gd + b9))), (11, .int (nI (q9 + 10 + ((3 + u9) * cb)))), (16, .int (nI (q9 + 10 + ((3 + u9) * cb)))), (15, .int (nI u9)), (14, .int (nI q9)), (13, .int (nI i)), (9, .int (nI (nsS (B.1 k)))), (4, .int (nI (nn (B.1 k) 2))), (3, .int (nI (nn (B.1 k) 6))), (2, .int (nI (nn (B.1 k) 1))), (0, .ref be), (1, .int (nI k))] → W p l e ({ frames := 4, cells := 0, slots := 0, locals := 90 }) s m args below meth c H locs 0 0 (MQ below (va_Qi (fun r w => w = (wB kA B) ∧ (r = nI 1)) (fB D (tyL kA) A) A) args s 0 0 A) (F0 m 417 ls []) := by
                          clear hP hD hS hl
                          intro n_417
                          induction n_417 with
                          | zero =>
                            intro j tv hm_417 hj1 htv1 htv2
                            exact absurd hm_417 (by omega)
                          | succ n_417 ih_417 =>
                            intro j tv hm_417 hj1 htv1 htv2 H locs ls hP hD hS hl
                            refine lv_iload hx hb dL_isSo_417 (lv_at hl 0 rfl) ?_
                            refine lv_iload hx hb dL_isSo_419 (lv_at hl 7 rfl) ?_
                            refine lv_icmp_ge (tgt := 459) hx hb dL_isSo_421 (by decide) (fun c421 => ?_) (fun c421 => ?_)
                            ·
                              rw [qle (a := i) (b := j) (by omega) (by omega)] at c421
                              refine lv_iinc (v := nI (i + 1)) (lv' := [(13, .int (nI (i + 1))), (17, .int (nI j)), (12, .int (nI tv)), (10, .int (nI (gd + b9))), (11, .int (nI (q9 + 10 + ((3 + u9) * cb)))), (16, .int (nI (q9 + 10 + ((3 + u9) * cb)))), (15, .int (nI u9)), (14, .int (nI q9)), (9, .int (nI (nsS (B.1 k)))), (4, .int (nI (nn (B.1 k) 2))), (3, .int (nI (nn (B.1 k) 6))), (2, .int (nI (nn (B.1 k) 1))), (0, .ref be), (1, .int (nI k))]) hx hb dL_isSo_459 hl (k := 7) rfl (nI_add i 1) (by decide) rfl (fun ls hl => ?_)
                              refine lv_goto (tgt := 240) hx hb dL_isSo_462 (by decide) ?_
                              exact ih_240 (i + 1) (gd + b9) (q9 + 10 + ((3 + u9) * cb)) tv (by omega) (by first | assumption | omega | rfl) (by rw [hgd]; show _ = cntG _ i + _; rw [show (vS (B.1 k)) (i * 9 + 3) = nI b9 from hq11]; rcases (show b9 = 0 ∨ b9 = 1 by omega) with rfl | rfl <;> rfl) hce.symm (by first | assumption | omega | rfl) (by rw [htv2, isTw_s, show j = i from by omega]) _ _ _ hP hD hS (lv_sub hl [0, 2, 4, 3, 8, 9, 10, 11, 12, 13] rfl)
                            ·
                              rw [qle (a := i) (b := j) (by omega) (by omega)] at c421
                              refine lv_iload hx hb dL_isSo_424 (lv_at hl 1 rfl) ?_
                              refine lv_aload_n hx hb dL_isSo_426 rfl (lv_at hl 12 rfl) ?_
                              refine lv_iload_n hx hb dL_isSo_427 rfl (lv_at hl 13 rfl) ?_
                              refine lv_iload hx hb dL_isSo_428 (lv_at hl 0 rfl) ?_
                              refine lv_iconst (v := nI 1) hx hb dL_isSo_430 (by decide) ?_
                              have hF := chF [] hD hS hA
                              refine va_calli (va_runV (As := [.int (nI k), .int (nI j), .int (nI 1)]) (rest := [.int (nI tv)]) ⟨hx, hb, hml, hown, hts⟩ (c_X6_ofSector_B l D kA z B be k j 1 (by first | assumption | omega) (by first | assumption | omega) (by first | assumption | omega) (by first | assumption | omega) (by first | assumption | omega) _) (cwV 3 hts h_L_isSo_14 rfl rfl rfl (by decide +kernel) ⟨Nat.le_of_ble_eq_true rfl, Nat.le_of_ble_eq_true rfl⟩) (fPvB [] (hbe) hK hP hD hS hG hF) rfl rfl hl.1 rfl (lv_room (Nat.le_of_ble_eq_true rfl)) dL_isSo_431 ⟨Nat.le_of_ble_eq_true rfl, Nat.le_of_ble_eq_true rfl⟩) hS (fun q _ h => hF q h) hF (fun r_23 w1 t H locs ht hvm hw hB hz1 hk1 hS => ?_)
                              obtain ⟨hP, hD⟩ := chJ [] hP hD hk1 hF ht hB
                              try dsimp only at hw
                              obtain ⟨rfl, e_23⟩ := hw
                              have hP : va_P D vwCl (wB kA B) H := hP
                              have hD : va_D A (wB kA B) := hD
                              have hw9 := e_23
                              refine lv_aload_n hx hb dL_isSo_434 rfl (lv_at hl 12 rfl) ?_
                              refine lv_iload_n hx hb dL_isSo_435 rfl (lv_at hl 13 rfl) ?_
                              refine lv_iload hx hb dL_isSo_436 (lv_at hl 7 rfl) ?_
                              refine lv_iconst (v := nI 1) hx hb dL_isSo_438 (by decide) ?_
                              have hF := chF [] hD hS hA
                              refine va_calli (va_runV (As := [.int (nI k), .int (nI i), .int (nI 1)]) (rest := [.int r_23, .int (nI tv)]) ⟨hx, hb, hml, hown, hts⟩ (c_X6_ofSector_B l D kA z B be k i 1 (by first | assumption | omega) (by first | assumption | omega) (by first | assumption | omega) (by first | assumption | omega) (by first | assumption | omega) _) (cwV 3 hts h_L_isSo_14 rfl rfl rfl (by decide +kernel) ⟨Nat.le_of_ble_eq_true rfl, Nat.le_of_ble_eq_true rfl⟩) (fPvB [] (hbe) hK hP hD hS hG hF) rfl rfl hl.1 rfl (lv_room (Nat.le_of_ble_eq_true rfl)) dL_isSo_439 ⟨Nat.le_of_ble_eq_true rfl, Nat.le_of_ble_eq_true rfl⟩) hS (fun q _ h => hF q h) hF (fun r_24 w1 t H locs ht hvm hw hB hz1 hk1 hS => ?_)
                              obtain ⟨hP, hD⟩ := chJ [] hP hD hk1 hF ht hB
                              try dsimp only at hw
                              obtain ⟨rfl, e_24⟩ := hw
                              have hP : va_P D vwCl (wB kA B) H := hP
                              have hD : va_D A (wB kA B) := hD
                              have hw8 := e_24
                              refine lv_icmp_ne (tgt := 449) hx hb dL_isSo_442 (by decide) (fun c442 => ?_) (fun c442 => ?_)
                              ·
                                refine lv_iconst (v := nI 0) hx hb dL_isSo_449 (by decide) ?_
                                refine lv_ior hx hb dL_isSo_450 ?_
                                refine W.eq (g2 := F0 m 451 ls [.int (nI (max tv 0))]) (by rw [or01 htv1 (by decide)]) ?_
                                refine lv_istore (lv' := [(12, .int (nI (max tv 0))), (17, .int (nI j)), (10, .int (nI (gd + b9))), (11, .int (nI (q9 + 10 + ((3 + u9) * cb)))), (16, .int (nI (q9 + 10 + ((3 + u9) * cb)))), (15, .int (nI u9)), (14, .int (nI q9)), (13, .int (nI i)), (9, .int (nI (nsS (B.1 k)))), (4, .int (nI (nn (B.1 k) 2))), (3, .int (nI (nn (B.1 k) 6))), (2, .int (nI (nn (B.1 k) 1))), (0, .ref be), (1, .int (nI k))]) hx hb dL_isSo_451 hl (by decide) rfl (fun ls hl => ?_)
                                refine lv_iinc (v := nI (j + 1)) (lv' := [(17, .int (nI (j + 1))), (12, .int (nI (max tv 0))), (10, .int (nI (gd + b9))), (11, .int (nI (q9 + 10 + ((3 + u9) * cb)))), (16, .int (nI (q9 + 10 + ((3 + u9) * cb)))), (15, .int (nI u9)), (14, .int (nI q9)), (13, .int (nI i)), (9, .int (nI (nsS (B.1 k)))), (4, .int (nI (nn (B.1 k) 2))), (3, .int (nI (nn (B.1 k) 6))), (2, .int (nI (nn (B.1 k) 1))), (0, .ref be), (1, .int (nI k))]) hx hb dL_isSo_453 hl (k := 1) rfl (nI_add j 1) (by decide) rfl (fun ls hl => ?_)
                                refine lv_goto (tgt := 417) hx hb dL_isSo_456 (by decide) ?_
                                exact ih_417 (j + 1) (max tv 0) (by omega) (by first | assumption | omega | rfl) (by first | assumption | omega | rfl) (by rw [ex_s (Q := fun x => (vS (B.1 k)) (x * 9 + 1) = (vS (B.1 k)) (i * 9 + 1)), ← or_assoc, ← htv2]; have hw1 : (vS (B.1 k)) (j * 9 + 1) = _ := hw9.symm; have hw2 : (vS (B.1 k)) (i * 9 + 1) = _ := hw8.symm; rw [hw1, hw2]; exact ⟨fun h => Or.inl (by omega), fun h => h.elim (fun h => by omega) (fun h => absurd h c442)⟩) _ _ _ hP hD hS (lv_sub hl [0, 1, 2, 3, 4, 5, 6, 7, 8, 9, 10, 11, 12, 13] rfl)
                              ·
                                refine lv_iconst (v := nI 1) hx hb dL_isSo_445 (by decide) ?_
                                refine lv_goto (tgt := 450) hx hb dL_isSo_446 (by decide) ?_
                                refine lv_ior hx hb dL_isSo_450 ?_
                                refine W.eq (g2 := F0 m 451 ls [.int (nI (max tv 1))]) (by rw [or01 htv1 (by decide)]) ?_
                                refine lv_istore (lv' := [(12, .int (nI (max tv 1))), (17, .int (nI j)), (10, .int (nI (gd + b9))), (11, .int (nI (q9 + 10 + ((3 + u9) * cb)))), (16, .int (nI (q9 + 10 + ((3 + u9) * cb)))), (15, .int (nI u9)), (14, .int (nI q9)), (13, .int (nI i)), (9, .int (nI (nsS (B.1 k)))), (4, .int (nI (nn (B.1 k) 2))), (3, .int (nI (nn (B.1 k) 6))), (2, .int (nI (nn (B.1 k) 1))), (0, .ref be), (1, .int (nI k))]) hx hb dL_isSo_451 hl (by decide) rfl (fun ls hl => ?_)
                                refine lv_iinc (v := nI (j + 1)) (lv' := [(17, .int (nI (j + 1))), (12, .int (nI (max tv 1))), (10, .int (nI (gd + b9))), (11, .int (nI (q9 + 10 + ((3 + u9) * cb)))), (16, .int (nI (q9 + 10 + ((3 + u9) * cb)))), (15, .int (nI u9)), (14, .int (nI q9)), (13, .int (nI i)), (9, .int (nI (nsS (B.1 k)))), (4, .int (nI (nn (B.1 k) 2))), (3, .int (nI (nn (B.1 k) 6))), (2, .int (nI (nn (B.1 k) 1))), (0, .ref be), (1, .int (nI k))]) hx hb dL_isSo_453 hl (k := 1) rfl (nI_add j 1) (by decide) rfl (fun ls hl => ?_)
                                refine lv_goto (tgt := 417) hx hb dL_isSo_456 (by decide) ?_
                                exact ih_417 (j + 1) (max tv 1) (by omega) (by first | assumption | omega | rfl) (by first | assumption | omega | rfl) (by rw [ex_s (Q := fun x => (vS (B.1 k)) (x * 9 + 1) = (vS (B.1 k)) (i * 9 + 1)), ← or_assoc, ← htv2]; have hw1 : (vS (B.1 k)) (j * 9 + 1) = _ := hw9.symm; have hw2 : (vS (B.1 k)) (i * 9 + 1) = _ := hw8.symm; rw [hw1, hw2]; exact ⟨fun _ => Or.inr c442, fun _ => by omega⟩) _ _ _ hP hD hS (lv_sub hl [0, 1, 2, 3, 4, 5, 6, 7, 8, 9, 10, 11, 12, 13] rfl)
                        exact lp_417 (i + 1) 0 tw (by omega) (by first | assumption | omega | rfl) (by first | assumption | omega | rfl) (by rw [htw2]; exact ⟨Or.inl, fun h => h.elim id (fun ⟨x, h1, _⟩ => absurd h1 (by omega))⟩) _ _ _ hP hD hS (lv_sub hl [0, 7, 1, 2, 3, 4, 5, 6, 8, 9, 10, 11, 12, 13] rfl)
                      refine lv_iconst (v := nI 4) hx hb dL_isSo_376 (by decide) ?_
                      refine lv_icmp_ge (tgt := 397) hx hb dL_isSo_377 (by decide) (fun c377 => ?_) (fun c377 => ?_)
                      ·
                        rw [qle (a := 4) (b := u9) (by omega) (by omega)] at c377
                        exact jn_397  trivial  _ _ _ hP hD hS (lv_sub hl [0, 1, 2, 3, 4, 5, 6, 7, 8, 9, 10, 11, 12] rfl)
                      ·
                        rw [qle (a := 4) (b := u9) (by omega) (by omega)] at c377
                        refine lv_aload_n hx hb dL_isSo_380 rfl (lv_at hl 11 rfl) ?_
                        refine lv_iload_n hx hb dL_isSo_381 rfl (lv_at hl 12 rfl) ?_
                        refine lv_iload hx hb dL_isSo_382 (lv_at hl 3 rfl) ?_
                        refine lv_iconst (v := nI 5) hx hb dL_isSo_384 (by decide) ?_
                        refine lv_iload hx hb dL_isSo_385 (lv_at hl 1 rfl) ?_
                        refine lv_iadd hx hb dL_isSo_387 ?_
                        rw [nI_add 5 u9]
                        have hF := chF [] hD hS hA
                        refine va_calli (va_runV (As := [.int (nI k), .int (nI i), .int (nI (5 + u9))]) (rest := []) ⟨hx, hb, hml, hown, hts⟩ (c_X6_ofSector_B l D kA z B be k i (5 + u9) (by first | assumption | omega) (by first | assumption | omega) (by first | assumption | omega) (by first | assumption | omega) (by first | assumption | omega) _) (cwV 3 hts h_L_isSo_14 rfl rfl rfl (by decide +kernel) ⟨Nat.le_of_ble_eq_true rfl, Nat.le_of_ble_eq_true rfl⟩) (fPvB [] (hbe) hK hP hD hS hG hF) rfl rfl hl.1 rfl (lv_room (Nat.le_of_ble_eq_true rfl)) dL_isSo_388 ⟨Nat.le_of_ble_eq_true rfl, Nat.le_of_ble_eq_true rfl⟩) hS (fun q _ h => hF q h) hF (fun r_25 w1 t H locs ht hvm hw hB hz1 hk1 hS => ?_)
                        obtain ⟨hP, hD⟩ := chJ [] hP hD hk1 hF ht hB
                        try dsimp only at hw
                        obtain ⟨rfl, e_25⟩ := hw
                        have hP : va_P D vwCl (wB kA B) H := hP
                        have hD : va_D A (wB kA B) := hD
                        have hv5 := e_25
                        refine lv_iconst (v := -1) hx hb dL_isSo_391 (by decide) ?_
                        refine lv_icmp_eq (tgt := 397) hx hb dL_isSo_392 (by decide) (fun _ => ?_) (fun c392 => absurd (by rw [hv5, show oSe (B.1 k) i (5 + u9) = (vS (B.1 k)) (i * 9 + 5 + u9) from congrArg (vS (B.1 k)) (show i * 9 + (5 + u9) = i * 9 + 5 + u9 by omega)]; exact hq13 u9 (Nat.le_refl _) (by omega)) c392)
                        exact jn_397  trivial  _ _ _ hP hD hS (lv_sub hl [0, 1, 2, 3, 4, 5, 6, 7, 8, 9, 10, 11, 12] rfl)
                    refine lv_icmp_ne (tgt := 291) hx hb dL_isSo_283 (by decide) (fun c283 => ?_) (fun c283 => ?_)
                    ·
                      rw [qeq (a := (nn (B.1 k) 0)) (b := 2) (by omega) (by omega)] at c283
                      refine lv_bipush (v := nI 16) hx hb dL_isSo_291 (by decide) ?_
                      exact jn_293 16 trivial (by first | exact (cB_2 (c := nn (B.1 k) 0) (by omega)).symm | exact (cB_n (c := nn (B.1 k) 0) (by omega)).symm) _ _ _ hP hD hS (lv_sub hl [0, 1, 2, 3, 4, 5, 6, 7, 8, 9, 10, 11] rfl)
                    ·
                      rw [qeq (a := (nn (B.1 k) 0)) (b := 2) (by omega) (by omega)] at c283
                      refine lv_bipush (v := nI 10) hx hb dL_isSo_286 (by decide) ?_
                      refine lv_goto (tgt := 293) hx hb dL_isSo_288 (by decide) ?_
                      exact jn_293 10 trivial (by first | exact (cB_2 (c := nn (B.1 k) 0) (by omega)).symm | exact (cB_n (c := nn (B.1 k) 0) (by omega)).symm) _ _ _ hP hD hS (lv_sub hl [0, 1, 2, 3, 4, 5, 6, 7, 8, 9, 10, 11] rfl)
              exact lp_240 (nsS (B.1 k) + 1) 0 0 0 0 (by omega) (by first | assumption | omega | rfl) rfl hE0.symm (by first | assumption | omega | rfl) (⟨fun h => absurd h (by decide), fun ⟨x, y, h1, h2, _⟩ => absurd h2 (by omega)⟩) _ _ _ hP hD hS (lv_sub hl [0, 1, 2, 3, 4, 8, 9, 10, 11, 12] rfl)
            ·
              rw [qz (a := (nn (B.1 k) 6 + (nn (B.1 k) 2))) (by omega)] at c181
              refine lv_dload hx hb dL_isSo_184 (lv_at hl 0 rfl) ?_
              refine lv_dconst0 hx hb dL_isSo_186 ?_
              refine lv_dcmp hx hb dL_isSo_187 ?_
              refine lv_if_eq (tgt := 220) hx hb dL_isSo_188 (by decide) (fun _ => ?_) (fun c188 => absurd (by rw [hsu, sureF, if_pos (by omega)]; decide +kernel) c188)
              refine lv_aload_n hx hb dL_isSo_220 rfl (lv_at hl 6 rfl) ?_
              refine lv_iload_n hx hb dL_isSo_221 rfl (lv_at hl 7 rfl) ?_
              refine lv_iconst (v := nI 5) hx hb dL_isSo_222 (by decide) ?_
              have hF := chF [] hD hS hA
              refine va_calli (va_runV (As := [.int (nI k), .int (nI 5)]) (rest := []) ⟨hx, hb, hml, hown, hts⟩ (c_X6_ofTrack_B5 l D kA z B be k (by first | assumption | omega) (by first | assumption | omega) (by first | assumption | omega) _) (cwV 2 hts h_L_isSo_5 rfl rfl rfl (by decide +kernel) ⟨Nat.le_of_ble_eq_true rfl, Nat.le_of_ble_eq_true rfl⟩) (fPvB [] (hbe) hK hP hD hS hG hF) rfl rfl hl.1 rfl (lv_room (Nat.le_of_ble_eq_true rfl)) dL_isSo_223 ⟨Nat.le_of_ble_eq_true rfl, Nat.le_of_ble_eq_true rfl⟩) hS (fun q _ h => hF q h) hF (fun r_26 w1 t H locs ht hvm hw hB hz1 hk1 hS => ?_)
              obtain ⟨hP, hD⟩ := chJ [] hP hD hk1 hF ht hB
              try dsimp only at hw
              obtain ⟨rfl, e_26⟩ := hw
              replace e_26 := e_26.symm
              subst e_26
              have hP : va_P D vwCl (wB kA B) H := hP
              have hD : va_D A (wB kA B) := hD
              refine lv_istore (lv' := [(9, .int (nI (nsS (B.1 k)))), (7, .double r_5), (6, .int (nI lg9)), (5, .int (nI sh9)), (4, .int (nI (nn (B.1 k) 2))), (3, .int (nI (nn (B.1 k) 6))), (2, .int (nI (nn (B.1 k) 1))), (0, .ref be), (1, .int (nI k))]) hx hb dL_isSo_226 hl (by decide) rfl (fun ls hl => ?_)
              refine lv_iconst (v := nI 0) hx hb dL_isSo_228 (by decide) ?_
              refine lv_istore (lv' := [(10, .int (nI 0)), (9, .int (nI (nsS (B.1 k)))), (7, .double r_5), (6, .int (nI lg9)), (5, .int (nI sh9)), (4, .int (nI (nn (B.1 k) 2))), (3, .int (nI (nn (B.1 k) 6))), (2, .int (nI (nn (B.1 k) 1))), (0, .ref be), (1, .int (nI k))]) hx hb dL_isSo_229 hl (by decide) rfl (fun ls hl => ?_)
              refine lv_iconst (v := nI 0) hx hb dL_isSo_231 (by decide) ?_
              refine lv_istore (lv' := [(11, .int (nI 0)), (10, .int (nI 0)), (9, .int (nI (nsS (B.1 k)))), (7, .double r_5), (6, .int (nI lg9)), (5, .int (nI sh9)), (4, .int (nI (nn (B.1 k) 2))), (3, .int (nI (nn (B.1 k) 6))), (2, .int (nI (nn (B.1 k) 1))), (0, .ref be), (1, .int (nI k))]) hx hb dL_isSo_232 hl (by decide) rfl (fun ls hl => ?_)
              refine lv_iconst (v := nI 0) hx hb dL_isSo_234 (by decide) ?_
              refine lv_istore (lv' := [(12, .int (nI 0)), (11, .int (nI 0)), (10, .int (nI 0)), (9, .int (nI (nsS (B.1 k)))), (7, .double r_5), (6, .int (nI lg9)), (5, .int (nI sh9)), (4, .int (nI (nn (B.1 k) 2))), (3, .int (nI (nn (B.1 k) 6))), (2, .int (nI (nn (B.1 k) 1))), (0, .ref be), (1, .int (nI k))]) hx hb dL_isSo_235 hl (by decide) rfl (fun ls hl => ?_)
              refine lv_iconst (v := nI 0) hx hb dL_isSo_237 (by decide) ?_
              refine lv_istore (lv' := [(13, .int (nI 0)), (12, .int (nI 0)), (11, .int (nI 0)), (10, .int (nI 0)), (9, .int (nI (nsS (B.1 k)))), (7, .double r_5), (6, .int (nI lg9)), (5, .int (nI sh9)), (4, .int (nI (nn (B.1 k) 2))), (3, .int (nI (nn (B.1 k) 6))), (2, .int (nI (nn (B.1 k) 1))), (0, .ref be), (1, .int (nI k))]) hx hb dL_isSo_238 hl (by decide) rfl (fun ls hl => ?_)
              have lp_240 : ∀ (n_240 : Nat) (i : Nat) (gd : Nat) (at9 : Nat) (tw : Nat), nsS (B.1 k) - i < n_240 → (i ≤ nsS (B.1 k)) → (gd = cntG (vS (B.1 k)) i) → (at9 = E i) → (tw ≤ 1) → (tw = 1 ↔ isTw (vS (B.1 k)) i) → ∀ (H : Heap) (locs : List Loc) (ls : Array Slot), va_P D vwCl (wB kA B) H → va_D A (wB kA B) → va_S A s.heap H locs → lv_has ls 18 [(13, .int (nI i)), (12, .int (nI tw)), (11, .int (nI at9)), (10, .int (nI gd)), (9, .int (nI (nsS (B.1 k)))), (4, .int (nI (nn (B.1 k) 2))), (3, .int (nI (nn (B.1 k) 6))), (2, .int (nI (nn (B.1 k) 1))), (0, .ref be), (1, .int (nI k))] → W p l e ({ frames := 4, cells := 0, slots := 0, locals := 90 }) s m args below meth c H locs 0 0 (MQ below (va_Qi (fun r w => w = (wB kA B) ∧ (r = nI 1)) (fB D (tyL kA) A) A) args s 0 0 A) (F0 m 240 ls []) := by
                clear hP hD hS hl
                intro n_240
                induction n_240 with
                | zero =>
                  intro i gd at9 tw hm_240 hi1 hgd hat htw1 htw2
                  exact absurd hm_240 (by omega)
                | succ n_240 ih_240 =>
                  intro i gd at9 tw hm_240 hi1 hgd hat htw1 htw2 H locs ls hP hD hS hl
                  have hgd8 := cntG_le (vS (B.1 k)) i
                  rw [← hgd] at hgd8
                  refine lv_iload hx hb dL_isSo_240 (lv_at hl 0 rfl) ?_
                  refine lv_iload hx hb dL_isSo_242 (lv_at hl 4 rfl) ?_
                  refine lv_icmp_ge (tgt := 465) hx hb dL_isSo_244 (by decide) (fun c244 => ?_) (fun c244 => ?_)
                  ·
                    rw [qle (a := (nsS (B.1 k))) (b := i) (by omega) (by omega)] at c244
                    rw [show i = nsS (B.1 k) from by omega] at hgd htw2
                    have hgN : gd = ngS (B.1 k) := by rw [hgd, hngE]
                    have htN := twN_of htw1 htw2
                    refine lv_iload hx hb dL_isSo_465 (lv_at hl 4 rfl) ?_
                    refine lv_iload hx hb dL_isSo_467 (lv_at hl 3 rfl) ?_
                    have jn_477 : ∀ (g1 : Nat) (_ : True), (g1 = if gd < nsS (B.1 k) then 1 else 0) → ∀ (H : Heap) (locs : List Loc) (ls : Array Slot), va_P D vwCl (wB kA B) H → va_D A (wB kA B) → va_S A s.heap H locs → lv_has ls 18 [(13, .int (nI i)), (12, .int (nI tw)), (11, .int (nI at9)), (10, .int (nI gd)), (9, .int (nI (nsS (B.1 k)))), (4, .int (nI (nn (B.1 k) 2))), (3, .int (nI (nn (B.1 k) 6))), (2, .int (nI (nn (B.1 k) 1))), (0, .ref be), (1, .int (nI k))] → W p l e ({ frames := 4, cells := 0, slots := 0, locals := 90 }) s m args below meth c H locs 0 0 (MQ below (va_Qi (fun r w => w = (wB kA B) ∧ (r = nI 1)) (fB D (tyL kA) A) A) args s 0 0 A) (F0 m 477 ls [.int (nI g1)]) := by
                      clear hP hD hS hl
                      intro g1 _ hg1 H locs ls hP hD hS hl
                      refine lv_iload hx hb dL_isSo_477 (lv_at hl 1 rfl) ?_
                      have jn_487 : ∀ (g2 : Nat) (_ : True), (g2 = if tw = 1 then 2 else 0) → ∀ (H : Heap) (locs : List Loc) (ls : Array Slot), va_P D vwCl (wB kA B) H → va_D A (wB kA B) → va_S A s.heap H locs → lv_has ls 18 [(13, .int (nI i)), (12, .int (nI tw)), (11, .int (nI at9)), (10, .int (nI gd)), (9, .int (nI (nsS (B.1 k)))), (4, .int (nI (nn (B.1 k) 2))), (3, .int (nI (nn (B.1 k) 6))), (2, .int (nI (nn (B.1 k) 1))), (0, .ref be), (1, .int (nI k))] → W p l e ({ frames := 4, cells := 0, slots := 0, locals := 90 }) s m args below meth c H locs 0 0 (MQ below (va_Qi (fun r w => w = (wB kA B) ∧ (r = nI 1)) (fB D (tyL kA) A) A) args s 0 0 A) (F0 m 487 ls [.int (nI g2), .int (nI g1)]) := by
                        clear hP hD hS hl
                        intro g2 _ hg2 H locs ls hP hD hS hl
                        refine lv_iadd hx hb dL_isSo_487 ?_
                        rw [nI_add g1 g2]
                        refine lv_iload hx hb dL_isSo_488 (lv_at hl 5 rfl) ?_
                        have jn_498 : ∀ (g3 : Nat) (_ : True), (g3 = if 0 < nn (B.1 k) 2 then 4 else 0) → ∀ (H : Heap) (locs : List Loc) (ls : Array Slot), va_P D vwCl (wB kA B) H → va_D A (wB kA B) → va_S A s.heap H locs → lv_has ls 18 [(13, .int (nI i)), (12, .int (nI tw)), (11, .int (nI at9)), (10, .int (nI gd)), (9, .int (nI (nsS (B.1 k)))), (4, .int (nI (nn (B.1 k) 2))), (3, .int (nI (nn (B.1 k) 6))), (2, .int (nI (nn (B.1 k) 1))), (0, .ref be), (1, .int (nI k))] → W p l e ({ frames := 4, cells := 0, slots := 0, locals := 90 }) s m args below meth c H locs 0 0 (MQ below (va_Qi (fun r w => w = (wB kA B) ∧ (r = nI 1)) (fB D (tyL kA) A) A) args s 0 0 A) (F0 m 498 ls [.int (nI g3), .int (nI (g1 + g2))]) := by
                          clear hP hD hS hl
                          intro g3 _ hg3 H locs ls hP hD hS hl
                          refine lv_iadd hx hb dL_isSo_498 ?_
                          rw [nI_add (g1 + g2) g3]
                          refine lv_aload_n hx hb dL_isSo_499 rfl (lv_at hl 8 rfl) ?_
                          refine lv_iload_n hx hb dL_isSo_500 rfl (lv_at hl 9 rfl) ?_
                          refine lv_bipush (v := nI 7) hx hb dL_isSo_501 (by decide) ?_
                          have hF := chF [] hD hS hA
                          refine va_calli (va_runV (As := [.int (nI k), .int (nI 7)]) (rest := [.int (nI (g1 + g2 + g3))]) ⟨hx, hb, hml, hown, hts⟩ (c_X6_ofTrack_B7 l D kA z B be k (by first | assumption | omega) (by first | assumption | omega) (by first | assumption | omega) _) (cwV 2 hts h_L_isSo_6 rfl rfl rfl (by decide +kernel) ⟨Nat.le_of_ble_eq_true rfl, Nat.le_of_ble_eq_true rfl⟩) (fPvB [] (hbe) hK hP hD hS hG hF) rfl rfl hl.1 rfl (lv_room (Nat.le_of_ble_eq_true rfl)) dL_isSo_503 ⟨Nat.le_of_ble_eq_true rfl, Nat.le_of_ble_eq_true rfl⟩) hS (fun q _ h => hF q h) hF (fun r_27 w1 t H locs ht hvm hw hB hz1 hk1 hS => ?_)
                          obtain ⟨hP, hD⟩ := chJ [] hP hD hk1 hF ht hB
                          try dsimp only at hw
                          obtain ⟨rfl, e_27⟩ := hw
                          replace e_27 := e_27.symm
                          subst e_27
                          have hP : va_P D vwCl (wB kA B) H := hP
                          have hD : va_D A (wB kA B) := hD
                          have jn_515 : ∀ (g4 : Nat) (_ : True), (g4 = if 0 < stS (B.1 k) then 8 else 0) → ∀ (H : Heap) (locs : List Loc) (ls : Array Slot), va_P D vwCl (wB kA B) H → va_D A (wB kA B) → va_S A s.heap H locs → lv_has ls 18 [(13, .int (nI i)), (12, .int (nI tw)), (11, .int (nI at9)), (10, .int (nI gd)), (9, .int (nI (nsS (B.1 k)))), (4, .int (nI (nn (B.1 k) 2))), (3, .int (nI (nn (B.1 k) 6))), (2, .int (nI (nn (B.1 k) 1))), (0, .ref be), (1, .int (nI k))] → W p l e ({ frames := 4, cells := 0, slots := 0, locals := 90 }) s m args below meth c H locs 0 0 (MQ below (va_Qi (fun r w => w = (wB kA B) ∧ (r = nI 1)) (fB D (tyL kA) A) A) args s 0 0 A) (F0 m 515 ls [.int (nI g4), .int (nI (g1 + g2 + g3))]) := by
                            clear hP hD hS hl
                            intro g4 _ hg4 H locs ls hP hD hS hl
                            refine lv_iadd hx hb dL_isSo_515 ?_
                            rw [nI_add (g1 + g2 + g3) g4]
                            refine lv_bipush (v := nI 16) hx hb dL_isSo_516 (by decide) ?_
                            refine lv_aload_n hx hb dL_isSo_518 rfl (lv_at hl 8 rfl) ?_
                            refine lv_iload_n hx hb dL_isSo_519 rfl (lv_at hl 9 rfl) ?_
                            refine lv_bipush (v := nI 8) hx hb dL_isSo_520 (by decide) ?_
                            have hF := chF [] hD hS hA
                            refine va_calli (va_runV (As := [.int (nI k), .int (nI 8)]) (rest := [.int (nI 16), .int (nI (g1 + g2 + g3 + g4))]) ⟨hx, hb, hml, hown, hts⟩ (c_X6_ofTrack_B8 l D kA z B be k (by first | assumption | omega) (by first | assumption | omega) (by first | assumption | omega) _) (cwV 2 hts h_L_isSo_7 rfl rfl rfl (by decide +kernel) ⟨Nat.le_of_ble_eq_true rfl, Nat.le_of_ble_eq_true rfl⟩) (fPvB [] (hbe) hK hP hD hS hG hF) rfl rfl hl.1 rfl (lv_room (Nat.le_of_ble_eq_true rfl)) dL_isSo_522 ⟨Nat.le_of_ble_eq_true rfl, Nat.le_of_ble_eq_true rfl⟩) hS (fun q _ h => hF q h) hF (fun r_28 w1 t H locs ht hvm hw hB hz1 hk1 hS => ?_)
                            obtain ⟨hP, hD⟩ := chJ [] hP hD hk1 hF ht hB
                            try dsimp only at hw
                            obtain ⟨rfl, e_28⟩ := hw
                            replace e_28 := e_28.symm
                            subst e_28
                            have hP : va_P D vwCl (wB kA B) H := hP
                            have hD : va_D A (wB kA B) := hD
                            refine lv_imul hx hb dL_isSo_525 ?_
                            rw [pk_mul 16 (cuS (B.1 k))]
                            refine lv_iadd hx hb dL_isSo_526 ?_
                            rw [nI_add (g1 + g2 + g3 + g4) (16 * (cuS (B.1 k)))]
                            refine lv_iload_n hx hb dL_isSo_527 rfl (lv_at hl 6 rfl) ?_
                            refine lv_sipush (v := nI 300) hx hb dL_isSo_528 (by decide) ?_
                            have jn_540 : ∀ (g6 : Nat) (_ : True), (g6 = if 300 < nn (B.1 k) 6 then 32 else 0) → ∀ (H : Heap) (locs : List Loc) (ls : Array Slot), va_P D vwCl (wB kA B) H → va_D A (wB kA B) → va_S A s.heap H locs → lv_has ls 18 [(13, .int (nI i)), (12, .int (nI tw)), (11, .int (nI at9)), (10, .int (nI gd)), (9, .int (nI (nsS (B.1 k)))), (4, .int (nI (nn (B.1 k) 2))), (3, .int (nI (nn (B.1 k) 6))), (2, .int (nI (nn (B.1 k) 1))), (0, .ref be), (1, .int (nI k))] → W p l e ({ frames := 4, cells := 0, slots := 0, locals := 90 }) s m args below meth c H locs 0 0 (MQ below (va_Qi (fun r w => w = (wB kA B) ∧ (r = nI 1)) (fB D (tyL kA) A) A) args s 0 0 A) (F0 m 540 ls [.int (nI g6), .int (nI (g1 + g2 + g3 + g4 + (16 * (cuS (B.1 k)))))]) := by
                              clear hP hD hS hl
                              intro g6 _ hg6 H locs ls hP hD hS hl
                              refine lv_iadd hx hb dL_isSo_540 ?_
                              rw [nI_add (g1 + g2 + g3 + g4 + (16 * (cuS (B.1 k)))) g6]
                              have hgS : gdS (B.1 k) = g1 + g2 + g3 + g4 + 16 * cuS (B.1 k) + g6 := by rw [gdS_eq, ← hgN, ← htN, ← hg1, ← hg2, ← hg3, ← hg4, ← hg6]; rcases (show cuS (B.1 k) = 0 ∨ cuS (B.1 k) = 1 by omega) with h | h <;> rw [h] <;> rfl
                              have hg1b : g1 ≤ 1 := by rw [hg1]; split <;> omega
                              have hg2b : g2 ≤ 2 := by rw [hg2]; split <;> omega
                              have hg3b : g3 ≤ 4 := by rw [hg3]; split <;> omega
                              have hg4b : g4 ≤ 8 := by rw [hg4]; split <;> omega
                              have hg6b : g6 ≤ 32 := by rw [hg6]; split <;> omega
                              refine lv_istore (lv' := [(13, .int (nI (g1 + g2 + g3 + g4 + (16 * (cuS (B.1 k))) + g6))), (12, .int (nI tw)), (11, .int (nI at9)), (10, .int (nI gd)), (9, .int (nI (nsS (B.1 k)))), (4, .int (nI (nn (B.1 k) 2))), (3, .int (nI (nn (B.1 k) 6))), (2, .int (nI (nn (B.1 k) 1))), (0, .ref be), (1, .int (nI k))]) hx hb dL_isSo_541 hl (by decide) rfl (fun ls hl => ?_)
                              refine lv_aload_n hx hb dL_isSo_543 rfl (lv_at hl 8 rfl) ?_
                              refine lv_iload_n hx hb dL_isSo_544 rfl (lv_at hl 9 rfl) ?_
                              have hF := chF [] hD hS hA
                              refine va_calli (va_runV (As := [.int (nI k)]) (rest := []) ⟨hx, hb, hml, hown, hts⟩ (c_X6_plainLong_B l D kA z B be k (by first | assumption | omega) (by first | assumption | omega) (by first | assumption | omega) _) (cwV 1 hts h_L_isSo_8 rfl rfl rfl (by decide +kernel) ⟨Nat.le_of_ble_eq_true rfl, Nat.le_of_ble_eq_true rfl⟩) (fPvB [] (hbe) hK hP hD hS hG hF) rfl rfl hl.1 rfl (lv_room (Nat.le_of_ble_eq_true rfl)) dL_isSo_545 ⟨Nat.le_of_ble_eq_true rfl, Nat.le_of_ble_eq_true rfl⟩) hS (fun q _ h => hF q h) hF (fun r_29 w1 t H locs ht hvm hw hB hz1 hk1 hS => ?_)
                              obtain ⟨hP, hD⟩ := chJ [] hP hD hk1 hF ht hB
                              try dsimp only at hw
                              obtain ⟨rfl, e_29⟩ := hw
                              replace e_29 := e_29.symm
                              subst e_29
                              have hP : va_P D vwCl (wB kA B) H := hP
                              have hD : va_D A (wB kA B) := hD
                              refine lv_istore (lv' := [(14, .int (nI (plS (B.1 k)))), (13, .int (nI (g1 + g2 + g3 + g4 + (16 * (cuS (B.1 k))) + g6))), (12, .int (nI tw)), (11, .int (nI at9)), (10, .int (nI gd)), (9, .int (nI (nsS (B.1 k)))), (4, .int (nI (nn (B.1 k) 2))), (3, .int (nI (nn (B.1 k) 6))), (2, .int (nI (nn (B.1 k) 1))), (0, .ref be), (1, .int (nI k))]) hx hb dL_isSo_548 hl (by decide) rfl (fun ls hl => ?_)
                              refine lv_aload_n hx hb dL_isSo_550 rfl (lv_at hl 9 rfl) ?_
                              refine lv_iload_n hx hb dL_isSo_551 rfl (lv_at hl 10 rfl) ?_
                              refine lv_bipush (v := nI 6) hx hb dL_isSo_552 (by decide) ?_
                              have hF := chF [] hD hS hA
                              refine va_calli (va_runV (As := [.int (nI k), .int (nI 6)]) (rest := []) ⟨hx, hb, hml, hown, hts⟩ (c_X6_ofTrack_B6 l D kA z B be k (by first | assumption | omega) (by first | assumption | omega) (by first | assumption | omega) _) (cwV 2 hts h_L_isSo_9 rfl rfl rfl (by decide +kernel) ⟨Nat.le_of_ble_eq_true rfl, Nat.le_of_ble_eq_true rfl⟩) (fPvB [] (hbe) hK hP hD hS hG hF) rfl rfl hl.1 rfl (lv_room (Nat.le_of_ble_eq_true rfl)) dL_isSo_554 ⟨Nat.le_of_ble_eq_true rfl, Nat.le_of_ble_eq_true rfl⟩) hS (fun q _ h => hF q h) hF (fun r_30 w1 t H locs ht hvm hw hB hz1 hk1 hS => ?_)
                              obtain ⟨hP, hD⟩ := chJ [] hP hD hk1 hF ht hB
                              try dsimp only at hw
                              obtain ⟨rfl, e_30⟩ := hw
                              replace e_30 := e_30.symm
                              subst e_30
                              have hP : va_P D vwCl (wB kA B) H := hP
                              have hD : va_D A (wB kA B) := hD
                              refine lv_iload hx hb dL_isSo_557 (lv_at hl 4 rfl) ?_
                              refine lv_icmp_ne (tgt := 638) hx hb dL_isSo_559 (by decide) (fun c559 => False.elim (by rw [qeq (a := (ngS (B.1 k))) (b := gd) (by omega) (by omega)] at c559; omega)) (fun _ => ?_)
                              refine lv_aload_n hx hb dL_isSo_562 rfl (lv_at hl 9 rfl) ?_
                              refine lv_iload_n hx hb dL_isSo_563 rfl (lv_at hl 10 rfl) ?_
                              refine lv_bipush (v := nI 9) hx hb dL_isSo_564 (by decide) ?_
                              have hF := chF [] hD hS hA
                              refine va_calli (va_runV (As := [.int (nI k), .int (nI 9)]) (rest := []) ⟨hx, hb, hml, hown, hts⟩ (c_X6_ofTrack_B9 l D kA z B be k (by first | assumption | omega) (by first | assumption | omega) (by first | assumption | omega) _) (cwV 2 hts h_L_isSo_10 rfl rfl rfl (by decide +kernel) ⟨Nat.le_of_ble_eq_true rfl, Nat.le_of_ble_eq_true rfl⟩) (fPvB [] (hbe) hK hP hD hS hG hF) rfl rfl hl.1 rfl (lv_room (Nat.le_of_ble_eq_true rfl)) dL_isSo_566 ⟨Nat.le_of_ble_eq_true rfl, Nat.le_of_ble_eq_true rfl⟩) hS (fun q _ h => hF q h) hF (fun r_31 w1 t H locs ht hvm hw hB hz1 hk1 hS => ?_)
                              obtain ⟨hP, hD⟩ := chJ [] hP hD hk1 hF ht hB
                              try dsimp only at hw
                              obtain ⟨rfl, e_31⟩ := hw
                              replace e_31 := e_31.symm
                              subst e_31
                              have hP : va_P D vwCl (wB kA B) H := hP
                              have hD : va_D A (wB kA B) := hD
                              refine lv_iload hx hb dL_isSo_569 (lv_at hl 1 rfl) ?_
                              refine lv_icmp_ne (tgt := 638) hx hb dL_isSo_571 (by decide) (fun c571 => False.elim (by rw [qeq (a := (gdS (B.1 k))) (b := (g1 + g2 + g3 + g4 + (16 * (cuS (B.1 k))) + g6)) (by omega) (by omega)] at c571; omega)) (fun _ => ?_)
                              refine lv_aload_n hx hb dL_isSo_574 rfl (lv_at hl 9 rfl) ?_
                              refine lv_iload_n hx hb dL_isSo_575 rfl (lv_at hl 10 rfl) ?_
                              have hF := chF [] hD hS hA
                              refine va_calli (va_runV (As := [.int (nI k)]) (rest := []) ⟨hx, hb, hml, hown, hts⟩ (c_X6_wouldLose_B l D kA z B be k (by first | assumption | omega) (by first | assumption | omega) (by first | assumption | omega) _) (cwV 1 hts h_L_isSo_11 rfl rfl rfl (by decide +kernel) ⟨Nat.le_of_ble_eq_true rfl, Nat.le_of_ble_eq_true rfl⟩) (fPvB [] (hbe) hK hP hD hS hG hF) rfl rfl hl.1 rfl (lv_room (Nat.le_of_ble_eq_true rfl)) dL_isSo_576 ⟨Nat.le_of_ble_eq_true rfl, Nat.le_of_ble_eq_true rfl⟩) hS (fun q _ h => hF q h) hF (fun r_32 w1 t H locs ht hvm hw hB hz1 hk1 hS => ?_)
                              obtain ⟨hP, hD⟩ := chJ [] hP hD hk1 hF ht hB
                              try dsimp only at hw
                              obtain ⟨rfl, e_32⟩ := hw
                              have hP : va_P D vwCl (wB kA B) H := hP
                              have hD : va_D A (wB kA B) := hD
                              have hwl := e_32
                              refine lv_iload hx hb dL_isSo_579 (lv_at hl 1 rfl) ?_
                              refine lv_iconst (v := -1) hx hb dL_isSo_581 (by decide) ?_
                              refine lv_ixor hx hb dL_isSo_582 ?_
                              refine lv_iand hx hb dL_isSo_583 ?_
                              refine lv_if_ne (tgt := 638) hx hb dL_isSo_584 (by decide) (fun c584 => absurd (by rw [hwl, ← hgS]; exact wl_0) c584) (fun _ => ?_)
                              refine lv_aload_n hx hb dL_isSo_587 rfl (lv_at hl 9 rfl) ?_
                              refine lv_iload_n hx hb dL_isSo_588 rfl (lv_at hl 10 rfl) ?_
                              refine lv_aload_n hx hb dL_isSo_589 rfl (lv_at hl 9 rfl) ?_
                              refine lv_iload_n hx hb dL_isSo_590 rfl (lv_at hl 10 rfl) ?_
                              refine lv_iconst (v := nI 0) hx hb dL_isSo_591 (by decide) ?_
                              have hF := chF [] hD hS hA
                              refine va_calli (va_runV (As := [.int (nI k), .int (nI 0)]) (rest := [.int (nI k), .ref be]) ⟨hx, hb, hml, hown, hts⟩ (c_X6_ofTrack_B0 l D kA z B be k (by first | assumption | omega) (by first | assumption | omega) (by first | assumption | omega) _) (cwV 2 hts h_L_isSo_12 rfl rfl rfl (by decide +kernel) ⟨Nat.le_of_ble_eq_true rfl, Nat.le_of_ble_eq_true rfl⟩) (fPvB [] (hbe) hK hP hD hS hG hF) rfl rfl hl.1 rfl (lv_room (Nat.le_of_ble_eq_true rfl)) dL_isSo_592 ⟨Nat.le_of_ble_eq_true rfl, Nat.le_of_ble_eq_true rfl⟩) hS (fun q _ h => hF q h) hF (fun r_33 w1 t H locs ht hvm hw hB hz1 hk1 hS => ?_)
                              obtain ⟨hP, hD⟩ := chJ [] hP hD hk1 hF ht hB
                              try dsimp only at hw
                              obtain ⟨rfl, e_33⟩ := hw
                              replace e_33 := e_33.symm
                              subst e_33
                              have hP : va_P D vwCl (wB kA B) H := hP
                              have hD : va_D A (wB kA B) := hD
                              have hF := chF [] hD hS hA
                              refine va_calli (va_runV (As := [.int (nI k), .int (nI (nn (B.1 k) 0))]) (rest := []) ⟨hx, hb, hml, hown, hts⟩ (c_X6_goodBy_B l D kA z B be k (nn (B.1 k) 0) (by first | assumption | omega) (by first | assumption | omega) (by first | assumption | omega) (by first | assumption | omega) _) (cwV 2 hts h_L_isSo_13 rfl rfl rfl (by decide +kernel) ⟨Nat.le_of_ble_eq_true rfl, Nat.le_of_ble_eq_true rfl⟩) (fPvB [] (hbe) hK hP hD hS hG hF) rfl rfl hl.1 rfl (lv_room (Nat.le_of_ble_eq_true rfl)) dL_isSo_595 ⟨Nat.le_of_ble_eq_true rfl, Nat.le_of_ble_eq_true rfl⟩) hS (fun q _ h => hF q h) hF (fun r_34 w1 t H locs ht hvm hw hB hz1 hk1 hS => ?_)
                              obtain ⟨hP, hD⟩ := chJ [] hP hD hk1 hF ht hB
                              try dsimp only at hw
                              obtain ⟨rfl, e_34⟩ := hw
                              replace e_34 := e_34.symm
                              subst e_34
                              have hP : va_P D vwCl (wB kA B) H := hP
                              have hD : va_D A (wB kA B) := hD
                              refine lv_iload hx hb dL_isSo_598 (lv_at hl 4 rfl) ?_
                              have hgo : ow (nn (B.1 k) 0) (nn (B.1 k) 14) (nn (B.1 k) 8) = gd := by rw [hgN]; rfl
                              refine lv_icmp_ne (tgt := 638) hx hb dL_isSo_600 (by decide) (fun c600 => False.elim (by rw [qeq (a := (ow (nn (B.1 k) 0) (nn (B.1 k) 14) (nn (B.1 k) 8))) (b := gd) (by omega) (by omega)] at c600; omega)) (fun _ => ?_)
                              refine lv_iload hx hb dL_isSo_603 (lv_at hl 0 rfl) ?_
                              refine lv_sipush (v := nI 400) hx hb dL_isSo_605 (by decide) ?_
                              refine lv_icmp_gt (tgt := 638) hx hb dL_isSo_608 (by decide) (fun c608 => False.elim (by rw [qlt (a := 400) (b := (plS (B.1 k))) (by omega) (by omega)] at c608; omega)) (fun _ => ?_)
                              refine lv_iload hx hb dL_isSo_611 (lv_at hl 0 rfl) ?_
                              have jn_621 : ∀ (x1 : Nat) (_ : True), (x1 = if 0 < plS (B.1 k) then 1 else 0) → ∀ (H : Heap) (locs : List Loc) (ls : Array Slot), va_P D vwCl (wB kA B) H → va_D A (wB kA B) → va_S A s.heap H locs → lv_has ls 18 [(14, .int (nI (plS (B.1 k)))), (13, .int (nI (g1 + g2 + g3 + g4 + (16 * (cuS (B.1 k))) + g6))), (12, .int (nI tw)), (11, .int (nI at9)), (10, .int (nI gd)), (9, .int (nI (nsS (B.1 k)))), (4, .int (nI (nn (B.1 k) 2))), (3, .int (nI (nn (B.1 k) 6))), (2, .int (nI (nn (B.1 k) 1))), (0, .ref be), (1, .int (nI k))] → W p l e ({ frames := 4, cells := 0, slots := 0, locals := 90 }) s m args below meth c H locs 0 0 (MQ below (va_Qi (fun r w => w = (wB kA B) ∧ (r = nI 1)) (fB D (tyL kA) A) A) args s 0 0 A) (F0 m 621 ls [.int (nI x1)]) := by
                                clear hP hD hS hl
                                intro x1 _ hx1 H locs ls hP hD hS hl
                                refine lv_iload hx hb dL_isSo_621 (lv_at hl 4 rfl) ?_
                                have jn_631 : ∀ (x2 : Nat) (_ : True), (x2 = if 0 < gd then 1 else 0) → ∀ (H : Heap) (locs : List Loc) (ls : Array Slot), va_P D vwCl (wB kA B) H → va_D A (wB kA B) → va_S A s.heap H locs → lv_has ls 18 [(14, .int (nI (plS (B.1 k)))), (13, .int (nI (g1 + g2 + g3 + g4 + (16 * (cuS (B.1 k))) + g6))), (12, .int (nI tw)), (11, .int (nI at9)), (10, .int (nI gd)), (9, .int (nI (nsS (B.1 k)))), (4, .int (nI (nn (B.1 k) 2))), (3, .int (nI (nn (B.1 k) 6))), (2, .int (nI (nn (B.1 k) 1))), (0, .ref be), (1, .int (nI k))] → W p l e ({ frames := 4, cells := 0, slots := 0, locals := 90 }) s m args below meth c H locs 0 0 (MQ below (va_Qi (fun r w => w = (wB kA B) ∧ (r = nI 1)) (fB D (tyL kA) A) A) args s 0 0 A) (F0 m 631 ls [.int (nI x2), .int (nI x1)]) := by
                                  clear hP hD hS hl
                                  intro x2 _ hx2 H locs ls hP hD hS hl
                                  have hxx : x1 = x2 ∧ x1 ≤ 1 := by exact x12 hplg hx1 (by rw [hx2, hgN])
                                  refine lv_icmp_ne (tgt := 638) hx hb dL_isSo_631 (by decide) (fun c631 => False.elim (by rw [qeq (a := x1) (b := x2) (by omega) (by omega)] at c631; omega)) (fun _ => ?_)
                                  refine lv_iconst (v := nI 1) hx hb dL_isSo_634 (by decide) ?_
                                  refine lv_goto (tgt := 639) hx hb dL_isSo_635 (by decide) ?_
                                  exact endZ hx hb hr hlocks (rfl) hK hP hD hS (⟨rfl, by first | rfl | assumption | omega | (rw [if_pos (by omega)]; first | done | rfl) | (rw [if_neg (by omega)]; first | done | rfl)⟩) (Nat.le_of_ble_eq_true rfl) (Nat.le_of_ble_eq_true rfl) dL_isSo_639
                                refine lv_if_le (tgt := 630) hx hb dL_isSo_623 (by decide) (fun c623 => ?_) (fun c623 => ?_)
                                ·
                                  rw [qnp (a := gd) (by omega)] at c623
                                  refine lv_iconst (v := nI 0) hx hb dL_isSo_630 (by decide) ?_
                                  exact jn_631 0 trivial (by first | rw [if_pos (by omega)] | rw [if_neg (by omega)]) _ _ _ hP hD hS (lv_sub hl [0, 1, 2, 3, 4, 5, 6, 7, 8, 9, 10] rfl)
                                ·
                                  rw [qnp (a := gd) (by omega)] at c623
                                  refine lv_iconst (v := nI 1) hx hb dL_isSo_626 (by decide) ?_
                                  refine lv_goto (tgt := 631) hx hb dL_isSo_627 (by decide) ?_
                                  exact jn_631 1 trivial (by first | rw [if_pos (by omega)] | rw [if_neg (by omega)]) _ _ _ hP hD hS (lv_sub hl [0, 1, 2, 3, 4, 5, 6, 7, 8, 9, 10] rfl)
                              refine lv_if_le (tgt := 620) hx hb dL_isSo_613 (by decide) (fun c613 => ?_) (fun c613 => ?_)
                              ·
                                rw [qnp (a := (plS (B.1 k))) (by omega)] at c613
                                refine lv_iconst (v := nI 0) hx hb dL_isSo_620 (by decide) ?_
                                exact jn_621 0 trivial (by first | rw [if_pos (by omega)] | rw [if_neg (by omega)]) _ _ _ hP hD hS (lv_sub hl [0, 1, 2, 3, 4, 5, 6, 7, 8, 9, 10] rfl)
                              ·
                                rw [qnp (a := (plS (B.1 k))) (by omega)] at c613
                                refine lv_iconst (v := nI 1) hx hb dL_isSo_616 (by decide) ?_
                                refine lv_goto (tgt := 621) hx hb dL_isSo_617 (by decide) ?_
                                exact jn_621 1 trivial (by first | rw [if_pos (by omega)] | rw [if_neg (by omega)]) _ _ _ hP hD hS (lv_sub hl [0, 1, 2, 3, 4, 5, 6, 7, 8, 9, 10] rfl)
                            refine lv_icmp_le (tgt := 539) hx hb dL_isSo_531 (by decide) (fun c531 => ?_) (fun c531 => ?_)
                            ·
                              rw [qle (a := (nn (B.1 k) 6)) (b := 300) (by omega) (by omega)] at c531
                              refine lv_iconst (v := nI 0) hx hb dL_isSo_539 (by decide) ?_
                              exact jn_540 0 trivial (by first | rw [if_pos (by omega)] | rw [if_neg (by omega)]) _ _ _ hP hD hS (lv_sub hl [0, 1, 2, 3, 4, 5, 6, 7, 8, 9] rfl)
                            ·
                              rw [qle (a := (nn (B.1 k) 6)) (b := 300) (by omega) (by omega)] at c531
                              refine lv_bipush (v := nI 32) hx hb dL_isSo_534 (by decide) ?_
                              refine lv_goto (tgt := 540) hx hb dL_isSo_536 (by decide) ?_
                              exact jn_540 32 trivial (by first | rw [if_pos (by omega)] | rw [if_neg (by omega)]) _ _ _ hP hD hS (lv_sub hl [0, 1, 2, 3, 4, 5, 6, 7, 8, 9] rfl)
                          refine lv_if_le (tgt := 514) hx hb dL_isSo_506 (by decide) (fun c506 => ?_) (fun c506 => ?_)
                          ·
                            rw [qnp (a := (stS (B.1 k))) (by omega)] at c506
                            refine lv_iconst (v := nI 0) hx hb dL_isSo_514 (by decide) ?_
                            exact jn_515 0 trivial (by first | rw [if_pos (by omega)] | rw [if_neg (by omega)]) _ _ _ hP hD hS (lv_sub hl [0, 1, 2, 3, 4, 5, 6, 7, 8, 9] rfl)
                          ·
                            rw [qnp (a := (stS (B.1 k))) (by omega)] at c506
                            refine lv_bipush (v := nI 8) hx hb dL_isSo_509 (by decide) ?_
                            refine lv_goto (tgt := 515) hx hb dL_isSo_511 (by decide) ?_
                            exact jn_515 8 trivial (by first | rw [if_pos (by omega)] | rw [if_neg (by omega)]) _ _ _ hP hD hS (lv_sub hl [0, 1, 2, 3, 4, 5, 6, 7, 8, 9] rfl)
                        refine lv_if_le (tgt := 497) hx hb dL_isSo_490 (by decide) (fun c490 => ?_) (fun c490 => ?_)
                        ·
                          rw [qnp (a := (nn (B.1 k) 2)) (by omega)] at c490
                          refine lv_iconst (v := nI 0) hx hb dL_isSo_497 (by decide) ?_
                          exact jn_498 0 trivial (by first | rw [if_pos (by omega)] | rw [if_neg (by omega)]) _ _ _ hP hD hS (lv_sub hl [0, 1, 2, 3, 4, 5, 6, 7, 8, 9] rfl)
                        ·
                          rw [qnp (a := (nn (B.1 k) 2)) (by omega)] at c490
                          refine lv_iconst (v := nI 4) hx hb dL_isSo_493 (by decide) ?_
                          refine lv_goto (tgt := 498) hx hb dL_isSo_494 (by decide) ?_
                          exact jn_498 4 trivial (by first | rw [if_pos (by omega)] | rw [if_neg (by omega)]) _ _ _ hP hD hS (lv_sub hl [0, 1, 2, 3, 4, 5, 6, 7, 8, 9] rfl)
                      refine lv_if_eq (tgt := 486) hx hb dL_isSo_479 (by decide) (fun c479 => ?_) (fun c479 => ?_)
                      ·
                        rw [qz (a := tw) (by omega)] at c479
                        refine lv_iconst (v := nI 0) hx hb dL_isSo_486 (by decide) ?_
                        exact jn_487 0 trivial (by first | rw [if_pos (by omega)] | rw [if_neg (by omega)]) _ _ _ hP hD hS (lv_sub hl [0, 1, 2, 3, 4, 5, 6, 7, 8, 9] rfl)
                      ·
                        rw [qz (a := tw) (by omega)] at c479
                        refine lv_iconst (v := nI 2) hx hb dL_isSo_482 (by decide) ?_
                        refine lv_goto (tgt := 487) hx hb dL_isSo_483 (by decide) ?_
                        exact jn_487 2 trivial (by first | rw [if_pos (by omega)] | rw [if_neg (by omega)]) _ _ _ hP hD hS (lv_sub hl [0, 1, 2, 3, 4, 5, 6, 7, 8, 9] rfl)
                    refine lv_icmp_le (tgt := 476) hx hb dL_isSo_469 (by decide) (fun c469 => ?_) (fun c469 => ?_)
                    ·
                      rw [qle (a := (nsS (B.1 k))) (b := gd) (by omega) (by omega)] at c469
                      refine lv_iconst (v := nI 0) hx hb dL_isSo_476 (by decide) ?_
                      exact jn_477 0 trivial (by first | rw [if_pos (by omega)] | rw [if_neg (by omega)]) _ _ _ hP hD hS (lv_sub hl [0, 1, 2, 3, 4, 5, 6, 7, 8, 9] rfl)
                    ·
                      rw [qle (a := (nsS (B.1 k))) (b := gd) (by omega) (by omega)] at c469
                      refine lv_iconst (v := nI 1) hx hb dL_isSo_472 (by decide) ?_
                      refine lv_goto (tgt := 477) hx hb dL_isSo_473 (by decide) ?_
                      exact jn_477 1 trivial (by first | rw [if_pos (by omega)] | rw [if_neg (by omega)]) _ _ _ hP hD hS (lv_sub hl [0, 1, 2, 3, 4, 5, 6, 7, 8, 9] rfl)
                  ·
                    rw [qle (a := (nsS (B.1 k))) (b := i) (by omega) (by omega)] at c244
                    obtain ⟨q9, u9, hq1, hq2, hq3, hq4, hq5, hq6, hq7, hq8, hq9, hq10, ⟨b9, hb9, hq11⟩, hq12, hq13⟩ := hsO i (by omega)
                    rw [hcxB] at hq6
                    refine lv_aload_n hx hb dL_isSo_247 rfl (lv_at hl 8 rfl) ?_
                    refine lv_iload_n hx hb dL_isSo_248 rfl (lv_at hl 9 rfl) ?_
                    refine lv_iload hx hb dL_isSo_249 (lv_at hl 0 rfl) ?_
                    refine lv_iconst (v := nI 0) hx hb dL_isSo_251 (by decide) ?_
                    have hF := chF [] hD hS hA
                    refine va_calli (va_runV (As := [.int (nI k), .int (nI i), .int (nI 0)]) (rest := []) ⟨hx, hb, hml, hown, hts⟩ (c_X6_ofSector_B l D kA z B be k i 0 (by first | assumption | omega) (by first | assumption | omega) (by first | assumption | omega) (by first | assumption | omega) (by first | assumption | omega) _) (cwV 3 hts h_L_isSo_14 rfl rfl rfl (by decide +kernel) ⟨Nat.le_of_ble_eq_true rfl, Nat.le_of_ble_eq_true rfl⟩) (fPvB [] (hbe) hK hP hD hS hG hF) rfl rfl hl.1 rfl (lv_room (Nat.le_of_ble_eq_true rfl)) dL_isSo_252 ⟨Nat.le_of_ble_eq_true rfl, Nat.le_of_ble_eq_true rfl⟩) hS (fun q _ h => hF q h) hF (fun r_35 w1 t H locs ht hvm hw hB hz1 hk1 hS => ?_)
                    obtain ⟨hP, hD⟩ := chJ [] hP hD hk1 hF ht hB
                    try dsimp only at hw
                    obtain ⟨rfl, e_35⟩ := hw
                    have hP : va_P D vwCl (wB kA B) H := hP
                    have hD : va_D A (wB kA B) := hD
                    refine W.eq (g2 := F0 m 255 ls [.int (nI q9)]) (by rw [show r_35 = nI q9 from (e_35).trans hq1]) ?_
                    refine lv_istore (lv' := [(14, .int (nI q9)), (13, .int (nI i)), (12, .int (nI tw)), (11, .int (nI at9)), (10, .int (nI gd)), (9, .int (nI (nsS (B.1 k)))), (4, .int (nI (nn (B.1 k) 2))), (3, .int (nI (nn (B.1 k) 6))), (2, .int (nI (nn (B.1 k) 1))), (0, .ref be), (1, .int (nI k))]) hx hb dL_isSo_255 hl (by decide) rfl (fun ls hl => ?_)
                    refine lv_aload_n hx hb dL_isSo_257 rfl (lv_at hl 9 rfl) ?_
                    refine lv_iload_n hx hb dL_isSo_258 rfl (lv_at hl 10 rfl) ?_
                    refine lv_iload hx hb dL_isSo_259 (lv_at hl 1 rfl) ?_
                    refine lv_iconst (v := nI 2) hx hb dL_isSo_261 (by decide) ?_
                    have hF := chF [] hD hS hA
                    refine va_calli (va_runV (As := [.int (nI k), .int (nI i), .int (nI 2)]) (rest := []) ⟨hx, hb, hml, hown, hts⟩ (c_X6_ofSector_B l D kA z B be k i 2 (by first | assumption | omega) (by first | assumption | omega) (by first | assumption | omega) (by first | assumption | omega) (by first | assumption | omega) _) (cwV 3 hts h_L_isSo_14 rfl rfl rfl (by decide +kernel) ⟨Nat.le_of_ble_eq_true rfl, Nat.le_of_ble_eq_true rfl⟩) (fPvB [] (hbe) hK hP hD hS hG hF) rfl rfl hl.1 rfl (lv_room (Nat.le_of_ble_eq_true rfl)) dL_isSo_262 ⟨Nat.le_of_ble_eq_true rfl, Nat.le_of_ble_eq_true rfl⟩) hS (fun q _ h => hF q h) hF (fun r_36 w1 t H locs ht hvm hw hB hz1 hk1 hS => ?_)
                    obtain ⟨hP, hD⟩ := chJ [] hP hD hk1 hF ht hB
                    try dsimp only at hw
                    obtain ⟨rfl, e_36⟩ := hw
                    have hP : va_P D vwCl (wB kA B) H := hP
                    have hD : va_D A (wB kA B) := hD
                    refine W.eq (g2 := F0 m 265 ls [.int (nI u9)]) (by rw [show r_36 = nI u9 from (e_36).trans hq2]) ?_
                    refine lv_istore (lv' := [(15, .int (nI u9)), (14, .int (nI q9)), (13, .int (nI i)), (12, .int (nI tw)), (11, .int (nI at9)), (10, .int (nI gd)), (9, .int (nI (nsS (B.1 k)))), (4, .int (nI (nn (B.1 k) 2))), (3, .int (nI (nn (B.1 k) 6))), (2, .int (nI (nn (B.1 k) 1))), (0, .ref be), (1, .int (nI k))]) hx hb dL_isSo_265 hl (by decide) rfl (fun ls hl => ?_)
                    refine lv_iload hx hb dL_isSo_267 (lv_at hl 1 rfl) ?_
                    refine lv_bipush (v := nI 10) hx hb dL_isSo_269 (by decide) ?_
                    refine lv_iadd hx hb dL_isSo_271 ?_
                    rw [nI_add q9 10]
                    refine lv_iconst (v := nI 3) hx hb dL_isSo_272 (by decide) ?_
                    refine lv_iload hx hb dL_isSo_273 (lv_at hl 0 rfl) ?_
                    refine lv_iadd hx hb dL_isSo_275 ?_
                    rw [nI_add 3 u9]
                    refine lv_aload_n hx hb dL_isSo_276 rfl (lv_at hl 10 rfl) ?_
                    refine lv_iload_n hx hb dL_isSo_277 rfl (lv_at hl 11 rfl) ?_
                    refine lv_iconst (v := nI 0) hx hb dL_isSo_278 (by decide) ?_
                    have hF := chF [] hD hS hA
                    refine va_calli (va_runV (As := [.int (nI k), .int (nI 0)]) (rest := [.int (nI (3 + u9)), .int (nI (q9 + 10))]) ⟨hx, hb, hml, hown, hts⟩ (c_X6_ofTrack_B0 l D kA z B be k (by first | assumption | omega) (by first | assumption | omega) (by first | assumption | omega) _) (cwV 2 hts h_L_isSo_12 rfl rfl rfl (by decide +kernel) ⟨Nat.le_of_ble_eq_true rfl, Nat.le_of_ble_eq_true rfl⟩) (fPvB [] (hbe) hK hP hD hS hG hF) rfl rfl hl.1 rfl (lv_room (Nat.le_of_ble_eq_true rfl)) dL_isSo_279 ⟨Nat.le_of_ble_eq_true rfl, Nat.le_of_ble_eq_true rfl⟩) hS (fun q _ h => hF q h) hF (fun r_37 w1 t H locs ht hvm hw hB hz1 hk1 hS => ?_)
                    obtain ⟨hP, hD⟩ := chJ [] hP hD hk1 hF ht hB
                    try dsimp only at hw
                    obtain ⟨rfl, e_37⟩ := hw
                    replace e_37 := e_37.symm
                    subst e_37
                    have hP : va_P D vwCl (wB kA B) H := hP
                    have hD : va_D A (wB kA B) := hD
                    refine lv_iconst (v := nI 2) hx hb dL_isSo_282 (by decide) ?_
                    have jn_293 : ∀ (cb : Nat) (_ : True), (cb = cB (nn (B.1 k) 0)) → ∀ (H : Heap) (locs : List Loc) (ls : Array Slot), va_P D vwCl (wB kA B) H → va_D A (wB kA B) → va_S A s.heap H locs → lv_has ls 18 [(15, .int (nI u9)), (14, .int (nI q9)), (13, .int (nI i)), (12, .int (nI tw)), (11, .int (nI at9)), (10, .int (nI gd)), (9, .int (nI (nsS (B.1 k)))), (4, .int (nI (nn (B.1 k) 2))), (3, .int (nI (nn (B.1 k) 6))), (2, .int (nI (nn (B.1 k) 1))), (0, .ref be), (1, .int (nI k))] → W p l e ({ frames := 4, cells := 0, slots := 0, locals := 90 }) s m args below meth c H locs 0 0 (MQ below (va_Qi (fun r w => w = (wB kA B) ∧ (r = nI 1)) (fB D (tyL kA) A) A) args s 0 0 A) (F0 m 293 ls [.int (nI cb), .int (nI (3 + u9)), .int (nI (q9 + 10))]) := by
                      clear hP hD hS hl
                      intro cb _ hcb H locs ls hP hD hS hl
                      have hce : E (i + 1) = q9 + 10 + (3 + u9) * cb := by rw [hq6, Nat.add_comm 3 u9, hcb]
                      refine lv_imul hx hb dL_isSo_293 ?_
                      rw [pk_mul (3 + u9) cb]
                      refine lv_iadd hx hb dL_isSo_294 ?_
                      rw [nI_add (q9 + 10) ((3 + u9) * cb)]
                      refine lv_istore (lv' := [(16, .int (nI (q9 + 10 + ((3 + u9) * cb)))), (15, .int (nI u9)), (14, .int (nI q9)), (13, .int (nI i)), (12, .int (nI tw)), (11, .int (nI at9)), (10, .int (nI gd)), (9, .int (nI (nsS (B.1 k)))), (4, .int (nI (nn (B.1 k) 2))), (3, .int (nI (nn (B.1 k) 6))), (2, .int (nI (nn (B.1 k) 1))), (0, .ref be), (1, .int (nI k))]) hx hb dL_isSo_295 hl (by decide) rfl (fun ls hl => ?_)
                      refine lv_iload hx hb dL_isSo_297 (lv_at hl 2 rfl) ?_
                      refine lv_iload hx hb dL_isSo_299 (lv_at hl 5 rfl) ?_
                      refine lv_icmp_lt (tgt := 395) hx hb dL_isSo_301 (by decide) (fun c301 => False.elim (by rw [qlt (a := q9) (b := at9) (by omega) (by omega)] at c301; omega)) (fun _ => ?_)
                      refine lv_iload hx hb dL_isSo_304 (lv_at hl 1 rfl) ?_
                      refine lv_iconst (v := nI 1) hx hb dL_isSo_306 (by decide) ?_
                      refine lv_icmp_lt (tgt := 395) hx hb dL_isSo_307 (by decide) (fun c307 => False.elim (by rw [qlt (a := u9) (b := 1) (by omega) (by omega)] at c307; omega)) (fun _ => ?_)
                      refine lv_iload hx hb dL_isSo_310 (lv_at hl 1 rfl) ?_
                      refine lv_iconst (v := nI 4) hx hb dL_isSo_312 (by decide) ?_
                      refine lv_icmp_gt (tgt := 395) hx hb dL_isSo_313 (by decide) (fun c313 => False.elim (by rw [qlt (a := 4) (b := u9) (by omega) (by omega)] at c313; omega)) (fun _ => ?_)
                      refine lv_iload hx hb dL_isSo_316 (lv_at hl 0 rfl) ?_
                      refine lv_iload_n hx hb dL_isSo_318 rfl (lv_at hl 9 rfl) ?_
                      refine lv_icmp_gt (tgt := 395) hx hb dL_isSo_319 (by decide) (fun c319 => False.elim (by rw [qlt (a := (nn (B.1 k) 6)) (b := (q9 + 10 + ((3 + u9) * cb))) (by omega) (by omega)] at c319; omega)) (fun _ => ?_)
                      refine lv_aload_n hx hb dL_isSo_322 rfl (lv_at hl 11 rfl) ?_
                      refine lv_iload_n hx hb dL_isSo_323 rfl (lv_at hl 12 rfl) ?_
                      refine lv_iload hx hb dL_isSo_324 (lv_at hl 2 rfl) ?_
                      have hF := chF [] hD hS hA
                      refine va_calli (va_runV (As := [.int (nI k), .int (nI q9)]) (rest := []) ⟨hx, hb, hml, hown, hts⟩ (c_X6_vote_B l D kA z B be k q9 (by first | assumption | omega) (by first | assumption | omega) (by first | assumption | omega) (by first | assumption | omega) _) (cwV 2 hts h_L_isSo_15 rfl rfl rfl (by decide +kernel) ⟨Nat.le_of_ble_eq_true rfl, Nat.le_of_ble_eq_true rfl⟩) (fPvB [] (hbe) hK hP hD hS hG hF) rfl rfl hl.1 rfl (lv_room (Nat.le_of_ble_eq_true rfl)) dL_isSo_326 ⟨Nat.le_of_ble_eq_true rfl, Nat.le_of_ble_eq_true rfl⟩) hS (fun q _ h => hF q h) hF (fun r_38 w1 t H locs ht hvm hw hB hz1 hk1 hS => ?_)
                      obtain ⟨hP, hD⟩ := chJ [] hP hD hk1 hF ht hB
                      try dsimp only at hw
                      obtain ⟨rfl, e_38⟩ := hw
                      have hP : va_P D vwCl (wB kA B) H := hP
                      have hD : va_D A (wB kA B) := hD
                      have hv1 := e_38
                      refine lv_iconst (v := nI 1) hx hb dL_isSo_329 (by decide) ?_
                      refine lv_icmp_ne (tgt := 395) hx hb dL_isSo_330 (by decide) (fun c330 => absurd (hv1.trans hq8) c330) (fun _ => ?_)
                      refine lv_aload_n hx hb dL_isSo_333 rfl (lv_at hl 11 rfl) ?_
                      refine lv_iload_n hx hb dL_isSo_334 rfl (lv_at hl 12 rfl) ?_
                      refine lv_iload hx hb dL_isSo_335 (lv_at hl 2 rfl) ?_
                      refine lv_iconst (v := nI 4) hx hb dL_isSo_337 (by decide) ?_
                      refine lv_iadd hx hb dL_isSo_338 ?_
                      rw [nI_add q9 4]
                      have hF := chF [] hD hS hA
                      refine va_calli (va_runV (As := [.int (nI k), .int (nI (q9 + 4))]) (rest := []) ⟨hx, hb, hml, hown, hts⟩ (c_X6_vote_B l D kA z B be k (q9 + 4) (by first | assumption | omega) (by first | assumption | omega) (by first | assumption | omega) (by first | assumption | omega) _) (cwV 2 hts h_L_isSo_15 rfl rfl rfl (by decide +kernel) ⟨Nat.le_of_ble_eq_true rfl, Nat.le_of_ble_eq_true rfl⟩) (fPvB [] (hbe) hK hP hD hS hG hF) rfl rfl hl.1 rfl (lv_room (Nat.le_of_ble_eq_true rfl)) dL_isSo_339 ⟨Nat.le_of_ble_eq_true rfl, Nat.le_of_ble_eq_true rfl⟩) hS (fun q _ h => hF q h) hF (fun r_39 w1 t H locs ht hvm hw hB hz1 hk1 hS => ?_)
                      obtain ⟨hP, hD⟩ := chJ [] hP hD hk1 hF ht hB
                      try dsimp only at hw
                      obtain ⟨rfl, e_39⟩ := hw
                      have hP : va_P D vwCl (wB kA B) H := hP
                      have hD : va_D A (wB kA B) := hD
                      have hv2 := e_39
                      refine lv_if_ne (tgt := 395) hx hb dL_isSo_342 (by decide) (fun c342 => absurd (hv2.trans hq9) c342) (fun _ => ?_)
                      refine lv_aload_n hx hb dL_isSo_345 rfl (lv_at hl 11 rfl) ?_
                      refine lv_iload_n hx hb dL_isSo_346 rfl (lv_at hl 12 rfl) ?_
                      refine lv_iload hx hb dL_isSo_347 (lv_at hl 2 rfl) ?_
                      refine lv_bipush (v := nI 9) hx hb dL_isSo_349 (by decide) ?_
                      refine lv_iadd hx hb dL_isSo_351 ?_
                      rw [nI_add q9 9]
                      have hF := chF [] hD hS hA
                      refine va_calli (va_runV (As := [.int (nI k), .int (nI (q9 + 9))]) (rest := []) ⟨hx, hb, hml, hown, hts⟩ (c_X6_vote_B l D kA z B be k (q9 + 9) (by first | assumption | omega) (by first | assumption | omega) (by first | assumption | omega) (by first | assumption | omega) _) (cwV 2 hts h_L_isSo_15 rfl rfl rfl (by decide +kernel) ⟨Nat.le_of_ble_eq_true rfl, Nat.le_of_ble_eq_true rfl⟩) (fPvB [] (hbe) hK hP hD hS hG hF) rfl rfl hl.1 rfl (lv_room (Nat.le_of_ble_eq_true rfl)) dL_isSo_352 ⟨Nat.le_of_ble_eq_true rfl, Nat.le_of_ble_eq_true rfl⟩) hS (fun q _ h => hF q h) hF (fun r_40 w1 t H locs ht hvm hw hB hz1 hk1 hS => ?_)
                      obtain ⟨hP, hD⟩ := chJ [] hP hD hk1 hF ht hB
                      try dsimp only at hw
                      obtain ⟨rfl, e_40⟩ := hw
                      have hP : va_P D vwCl (wB kA B) H := hP
                      have hD : va_D A (wB kA B) := hD
                      have hv3 := e_40
                      refine lv_iconst (v := nI 1) hx hb dL_isSo_355 (by decide) ?_
                      refine lv_icmp_ne (tgt := 395) hx hb dL_isSo_356 (by decide) (fun c356 => absurd (hv3.trans hq10) c356) (fun _ => ?_)
                      refine lv_aload_n hx hb dL_isSo_359 rfl (lv_at hl 11 rfl) ?_
                      refine lv_iload_n hx hb dL_isSo_360 rfl (lv_at hl 12 rfl) ?_
                      refine lv_iload hx hb dL_isSo_361 (lv_at hl 3 rfl) ?_
                      refine lv_iconst (v := nI 4) hx hb dL_isSo_363 (by decide) ?_
                      refine lv_iload hx hb dL_isSo_364 (lv_at hl 1 rfl) ?_
                      refine lv_iadd hx hb dL_isSo_366 ?_
                      rw [nI_add 4 u9]
                      have hF := chF [] hD hS hA
                      refine va_calli (va_runV (As := [.int (nI k), .int (nI i), .int (nI (4 + u9))]) (rest := []) ⟨hx, hb, hml, hown, hts⟩ (c_X6_ofSector_B l D kA z B be k i (4 + u9) (by first | assumption | omega) (by first | assumption | omega) (by first | assumption | omega) (by first | assumption | omega) (by first | assumption | omega) _) (cwV 3 hts h_L_isSo_14 rfl rfl rfl (by decide +kernel) ⟨Nat.le_of_ble_eq_true rfl, Nat.le_of_ble_eq_true rfl⟩) (fPvB [] (hbe) hK hP hD hS hG hF) rfl rfl hl.1 rfl (lv_room (Nat.le_of_ble_eq_true rfl)) dL_isSo_367 ⟨Nat.le_of_ble_eq_true rfl, Nat.le_of_ble_eq_true rfl⟩) hS (fun q _ h => hF q h) hF (fun r_41 w1 t H locs ht hvm hw hB hz1 hk1 hS => ?_)
                      obtain ⟨hP, hD⟩ := chJ [] hP hD hk1 hF ht hB
                      try dsimp only at hw
                      obtain ⟨rfl, e_41⟩ := hw
                      have hP : va_P D vwCl (wB kA B) H := hP
                      have hD : va_D A (wB kA B) := hD
                      have hv4 := e_41
                      refine lv_iconst (v := -1) hx hb dL_isSo_370 (by decide) ?_
                      refine lv_icmp_lt (tgt := 395) hx hb dL_isSo_371 (by decide) (fun c371 => absurd c371 (by rw [hv4, show oSe (B.1 k) i (4 + u9) = (vS (B.1 k)) (i * 9 + 5 + (u9 - 1)) from congrArg (vS (B.1 k)) (show i * 9 + (4 + u9) = i * 9 + 5 + (u9 - 1) by omega)]; exact bQ_ge (hq12 (u9 - 1) (by omega)))) (fun _ => ?_)
                      refine lv_iload hx hb dL_isSo_374 (lv_at hl 1 rfl) ?_
                      have jn_397 : ∀  (_ : True), ∀ (H : Heap) (locs : List Loc) (ls : Array Slot), va_P D vwCl (wB kA B) H → va_D A (wB kA B) → va_S A s.heap H locs → lv_has ls 18 [(16, .int (nI (q9 + 10 + ((3 + u9) * cb)))), (15, .int (nI u9)), (14, .int (nI q9)), (13, .int (nI i)), (12, .int (nI tw)), (11, .int (nI at9)), (10, .int (nI gd)), (9, .int (nI (nsS (B.1 k)))), (4, .int (nI (nn (B.1 k) 2))), (3, .int (nI (nn (B.1 k) 6))), (2, .int (nI (nn (B.1 k) 1))), (0, .ref be), (1, .int (nI k))] → W p l e ({ frames := 4, cells := 0, slots := 0, locals := 90 }) s m args below meth c H locs 0 0 (MQ below (va_Qi (fun r w => w = (wB kA B) ∧ (r = nI 1)) (fB D (tyL kA) A) A) args s 0 0 A) (F0 m 397 ls []) := by
                        clear hP hD hS hl
                        intro  _  H locs ls hP hD hS hl
                        refine lv_iload hx hb dL_isSo_397 (lv_at hl 0 rfl) ?_
                        refine lv_istore (lv' := [(11, .int (nI (q9 + 10 + ((3 + u9) * cb)))), (16, .int (nI (q9 + 10 + ((3 + u9) * cb)))), (15, .int (nI u9)), (14, .int (nI q9)), (13, .int (nI i)), (12, .int (nI tw)), (10, .int (nI gd)), (9, .int (nI (nsS (B.1 k)))), (4, .int (nI (nn (B.1 k) 2))), (3, .int (nI (nn (B.1 k) 6))), (2, .int (nI (nn (B.1 k) 1))), (0, .ref be), (1, .int (nI k))]) hx hb dL_isSo_399 hl (by decide) rfl (fun ls hl => ?_)
                        refine lv_iload hx hb dL_isSo_401 (lv_at hl 6 rfl) ?_
                        refine lv_aload_n hx hb dL_isSo_403 rfl (lv_at hl 11 rfl) ?_
                        refine lv_iload_n hx hb dL_isSo_404 rfl (lv_at hl 12 rfl) ?_
                        refine lv_iload hx hb dL_isSo_405 (lv_at hl 4 rfl) ?_
                        refine lv_iconst (v := nI 3) hx hb dL_isSo_407 (by decide) ?_
                        have hF := chF [] hD hS hA
                        refine va_calli (va_runV (As := [.int (nI k), .int (nI i), .int (nI 3)]) (rest := [.int (nI gd)]) ⟨hx, hb, hml, hown, hts⟩ (c_X6_ofSector_B l D kA z B be k i 3 (by first | assumption | omega) (by first | assumption | omega) (by first | assumption | omega) (by first | assumption | omega) (by first | assumption | omega) _) (cwV 3 hts h_L_isSo_14 rfl rfl rfl (by decide +kernel) ⟨Nat.le_of_ble_eq_true rfl, Nat.le_of_ble_eq_true rfl⟩) (fPvB [] (hbe) hK hP hD hS hG hF) rfl rfl hl.1 rfl (lv_room (Nat.le_of_ble_eq_true rfl)) dL_isSo_408 ⟨Nat.le_of_ble_eq_true rfl, Nat.le_of_ble_eq_true rfl⟩) hS (fun q _ h => hF q h) hF (fun r_42 w1 t H locs ht hvm hw hB hz1 hk1 hS => ?_)
                        obtain ⟨hP, hD⟩ := chJ [] hP hD hk1 hF ht hB
                        try dsimp only at hw
                        obtain ⟨rfl, e_42⟩ := hw
                        have hP : va_P D vwCl (wB kA B) H := hP
                        have hD : va_D A (wB kA B) := hD
                        refine W.eq (g2 := F0 m 411 ls [.int (nI b9), .int (nI gd)]) (by rw [show r_42 = nI b9 from (e_42).trans hq11]) ?_
                        refine lv_iadd hx hb dL_isSo_411 ?_
                        rw [nI_add gd b9]
                        refine lv_istore (lv' := [(10, .int (nI (gd + b9))), (11, .int (nI (q9 + 10 + ((3 + u9) * cb)))), (16, .int (nI (q9 + 10 + ((3 + u9) * cb)))), (15, .int (nI u9)), (14, .int (nI q9)), (13, .int (nI i)), (12, .int (nI tw)), (9, .int (nI (nsS (B.1 k)))), (4, .int (nI (nn (B.1 k) 2))), (3, .int (nI (nn (B.1 k) 6))), (2, .int (nI (nn (B.1 k) 1))), (0, .ref be), (1, .int (nI k))]) hx hb dL_isSo_412 hl (by decide) rfl (fun ls hl => ?_)
                        refine lv_iconst (v := nI 0) hx hb dL_isSo_414 (by decide) ?_
                        refine lv_istore (lv' := [(17, .int (nI 0)), (10, .int (nI (gd + b9))), (11, .int (nI (q9 + 10 + ((3 + u9) * cb)))), (16, .int (nI (q9 + 10 + ((3 + u9) * cb)))), (15, .int (nI u9)), (14, .int (nI q9)), (13, .int (nI i)), (12, .int (nI tw)), (9, .int (nI (nsS (B.1 k)))), (4, .int (nI (nn (B.1 k) 2))), (3, .int (nI (nn (B.1 k) 6))), (2, .int (nI (nn (B.1 k) 1))), (0, .ref be), (1, .int (nI k))]) hx hb dL_isSo_415 hl (by decide) rfl (fun ls hl => ?_)
                        have lp_417 : ∀ (n_417 : Nat) (j : Nat) (tv : Nat), i - j < n_417 → (j ≤ i) → (tv ≤ 1) → (tv = 1 ↔ isTw (vS (B.1 k)) i ∨ ∃ x, x < j ∧ (vS (B.1 k)) (x * 9 + 1) = (vS (B.1 k)) (i * 9 + 1)) → ∀ (H : Heap) (locs : List Loc) (ls : Array Slot), va_P D vwCl (wB kA B) H → va_D A (wB kA B) → va_S A s.heap H locs → lv_has ls 18 [(17, .int (nI j)), (12, .int (nI tv)), (10, .int (nI (gd + b9))), (11, .int (nI (q9 + 10 + ((3 + u9) * cb)))), (16, .int (nI (q9 + 10 + ((3 + u9) * cb)))), (15, .int (nI u9)), (14, .int (nI q9)), (13, .int (nI i)), (9, .int (nI (nsS (B.1 k)))), (4, .int (nI (nn (B.1 k) 2))), (3, .int (nI (nn (B.1 k) 6))), (2, .int (nI (nn (B.1 k) 1))), (0, .ref be), (1, .int (nI k))] → W p l e ({ frames := 4, cells := 0, slots := 0, locals := 90 }) s m args below meth c H locs 0 0 (MQ below (va_Qi (fun r w => w = (wB kA B) ∧ (r = nI 1)) (fB D (tyL kA) A) A) args s 0 0 A) (F0 m 417 ls []) := by
                          clear hP hD hS hl
                          intro n_417
                          induction n_417 with
                          | zero =>
                            intro j tv hm_417 hj1 htv1 htv2
                            exact absurd hm_417 (by omega)
                          | succ n_417 ih_417 =>
                            intro j tv hm_417 hj1 htv1 htv2 H locs ls hP hD hS hl
                            refine lv_iload hx hb dL_isSo_417 (lv_at hl 0 rfl) ?_
                            refine lv_iload hx hb dL_isSo_419 (lv_at hl 7 rfl) ?_
                            refine lv_icmp_ge (tgt := 459) hx hb dL_isSo_421 (by decide) (fun c421 => ?_) (fun c421 => ?_)
                            ·
                              rw [qle (a := i) (b := j) (by omega) (by omega)] at c421
                              refine lv_iinc (v := nI (i + 1)) (lv' := [(13, .int (nI (i + 1))), (17, .int (nI j)), (12, .int (nI tv)), (10, .int (nI (gd + b9))), (11, .int (nI (q9 + 10 + ((3 + u9) * cb)))), (16, .int (nI (q9 + 10 + ((3 + u9) * cb)))), (15, .int (nI u9)), (14, .int (nI q9)), (9, .int (nI (nsS (B.1 k)))), (4, .int (nI (nn (B.1 k) 2))), (3, .int (nI (nn (B.1 k) 6))), (2, .int (nI (nn (B.1 k) 1))), (0, .ref be), (1, .int (nI k))]) hx hb dL_isSo_459 hl (k := 7) rfl (nI_add i 1) (by decide) rfl (fun ls hl => ?_)
                              refine lv_goto (tgt := 240) hx hb dL_isSo_462 (by decide) ?_
                              exact ih_240 (i + 1) (gd + b9) (q9 + 10 + ((3 + u9) * cb)) tv (by omega) (by first | assumption | omega | rfl) (by rw [hgd]; show _ = cntG _ i + _; rw [show (vS (B.1 k)) (i * 9 + 3) = nI b9 from hq11]; rcases (show b9 = 0 ∨ b9 = 1 by omega) with rfl | rfl <;> rfl) hce.symm (by first | assumption | omega | rfl) (by rw [htv2, isTw_s, show j = i from by omega]) _ _ _ hP hD hS (lv_sub hl [0, 2, 4, 3, 8, 9, 10, 11, 12, 13] rfl)
                            ·
                              rw [qle (a := i) (b := j) (by omega) (by omega)] at c421
                              refine lv_iload hx hb dL_isSo_424 (lv_at hl 1 rfl) ?_
                              refine lv_aload_n hx hb dL_isSo_426 rfl (lv_at hl 12 rfl) ?_
                              refine lv_iload_n hx hb dL_isSo_427 rfl (lv_at hl 13 rfl) ?_
                              refine lv_iload hx hb dL_isSo_428 (lv_at hl 0 rfl) ?_
                              refine lv_iconst (v := nI 1) hx hb dL_isSo_430 (by decide) ?_
                              have hF := chF [] hD hS hA
                              refine va_calli (va_runV (As := [.int (nI k), .int (nI j), .int (nI 1)]) (rest := [.int (nI tv)]) ⟨hx, hb, hml, hown, hts⟩ (c_X6_ofSector_B l D kA z B be k j 1 (by first | assumption | omega) (by first | assumption | omega) (by first | assumption | omega) (by first | assumption | omega) (by first | assumption | omega) _) (cwV 3 hts h_L_isSo_14 rfl rfl rfl (by decide +kernel) ⟨Nat.le_of_ble_eq_true rfl, Nat.le_of_ble_eq_true rfl⟩) (fPvB [] (hbe) hK hP hD hS hG hF) rfl rfl hl.1 rfl (lv_room (Nat.le_of_ble_eq_true rfl)) dL_isSo_431 ⟨Nat.le_of_ble_eq_true rfl, Nat.le_of_ble_eq_true rfl⟩) hS (fun q _ h => hF q h) hF (fun r_43 w1 t H locs ht hvm hw hB hz1 hk1 hS => ?_)
                              obtain ⟨hP, hD⟩ := chJ [] hP hD hk1 hF ht hB
                              try dsimp only at hw
                              obtain ⟨rfl, e_43⟩ := hw
                              have hP : va_P D vwCl (wB kA B) H := hP
                              have hD : va_D A (wB kA B) := hD
                              have hw9 := e_43
                              refine lv_aload_n hx hb dL_isSo_434 rfl (lv_at hl 12 rfl) ?_
                              refine lv_iload_n hx hb dL_isSo_435 rfl (lv_at hl 13 rfl) ?_
                              refine lv_iload hx hb dL_isSo_436 (lv_at hl 7 rfl) ?_
                              refine lv_iconst (v := nI 1) hx hb dL_isSo_438 (by decide) ?_
                              have hF := chF [] hD hS hA
                              refine va_calli (va_runV (As := [.int (nI k), .int (nI i), .int (nI 1)]) (rest := [.int r_43, .int (nI tv)]) ⟨hx, hb, hml, hown, hts⟩ (c_X6_ofSector_B l D kA z B be k i 1 (by first | assumption | omega) (by first | assumption | omega) (by first | assumption | omega) (by first | assumption | omega) (by first | assumption | omega) _) (cwV 3 hts h_L_isSo_14 rfl rfl rfl (by decide +kernel) ⟨Nat.le_of_ble_eq_true rfl, Nat.le_of_ble_eq_true rfl⟩) (fPvB [] (hbe) hK hP hD hS hG hF) rfl rfl hl.1 rfl (lv_room (Nat.le_of_ble_eq_true rfl)) dL_isSo_439 ⟨Nat.le_of_ble_eq_true rfl, Nat.le_of_ble_eq_true rfl⟩) hS (fun q _ h => hF q h) hF (fun r_44 w1 t H locs ht hvm hw hB hz1 hk1 hS => ?_)
                              obtain ⟨hP, hD⟩ := chJ [] hP hD hk1 hF ht hB
                              try dsimp only at hw
                              obtain ⟨rfl, e_44⟩ := hw
                              have hP : va_P D vwCl (wB kA B) H := hP
                              have hD : va_D A (wB kA B) := hD
                              have hw8 := e_44
                              refine lv_icmp_ne (tgt := 449) hx hb dL_isSo_442 (by decide) (fun c442 => ?_) (fun c442 => ?_)
                              ·
                                refine lv_iconst (v := nI 0) hx hb dL_isSo_449 (by decide) ?_
                                refine lv_ior hx hb dL_isSo_450 ?_
                                refine W.eq (g2 := F0 m 451 ls [.int (nI (max tv 0))]) (by rw [or01 htv1 (by decide)]) ?_
                                refine lv_istore (lv' := [(12, .int (nI (max tv 0))), (17, .int (nI j)), (10, .int (nI (gd + b9))), (11, .int (nI (q9 + 10 + ((3 + u9) * cb)))), (16, .int (nI (q9 + 10 + ((3 + u9) * cb)))), (15, .int (nI u9)), (14, .int (nI q9)), (13, .int (nI i)), (9, .int (nI (nsS (B.1 k)))), (4, .int (nI (nn (B.1 k) 2))), (3, .int (nI (nn (B.1 k) 6))), (2, .int (nI (nn (B.1 k) 1))), (0, .ref be), (1, .int (nI k))]) hx hb dL_isSo_451 hl (by decide) rfl (fun ls hl => ?_)
                                refine lv_iinc (v := nI (j + 1)) (lv' := [(17, .int (nI (j + 1))), (12, .int (nI (max tv 0))), (10, .int (nI (gd + b9))), (11, .int (nI (q9 + 10 + ((3 + u9) * cb)))), (16, .int (nI (q9 + 10 + ((3 + u9) * cb)))), (15, .int (nI u9)), (14, .int (nI q9)), (13, .int (nI i)), (9, .int (nI (nsS (B.1 k)))), (4, .int (nI (nn (B.1 k) 2))), (3, .int (nI (nn (B.1 k) 6))), (2, .int (nI (nn (B.1 k) 1))), (0, .ref be), (1, .int (nI k))]) hx hb dL_isSo_453 hl (k := 1) rfl (nI_add j 1) (by decide) rfl (fun ls hl => ?_)
                                refine lv_goto (tgt := 417) hx hb dL_isSo_456 (by decide) ?_
                                exact ih_417 (j + 1) (max tv 0) (by omega) (by first | assumption | omega | rfl) (by first | assumption | omega | rfl) (by rw [ex_s (Q := fun x => (vS (B.1 k)) (x * 9 + 1) = (vS (B.1 k)) (i * 9 + 1)), ← or_assoc, ← htv2]; have hw1 : (vS (B.1 k)) (j * 9 + 1) = _ := hw9.symm; have hw2 : (vS (B.1 k)) (i * 9 + 1) = _ := hw8.symm; rw [hw1, hw2]; exact ⟨fun h => Or.inl (by omega), fun h => h.elim (fun h => by omega) (fun h => absurd h c442)⟩) _ _ _ hP hD hS (lv_sub hl [0, 1, 2, 3, 4, 5, 6, 7, 8, 9, 10, 11, 12, 13] rfl)
                              ·
                                refine lv_iconst (v := nI 1) hx hb dL_isSo_445 (by decide) ?_
                                refine lv_goto (tgt := 450) hx hb dL_isSo_446 (by decide) ?_
                                refine lv_ior hx hb dL_isSo_450 ?_
                                refine W.eq (g2 := F0 m 451 ls [.int (nI (max tv 1))]) (by rw [or01 htv1 (by decide)]) ?_
                                refine lv_istore (lv' := [(12, .int (nI (max tv 1))), (17, .int (nI j)), (10, .int (nI (gd + b9))), (11, .int (nI (q9 + 10 + ((3 + u9) * cb)))), (16, .int (nI (q9 + 10 + ((3 + u9) * cb)))), (15, .int (nI u9)), (14, .int (nI q9)), (13, .int (nI i)), (9, .int (nI (nsS (B.1 k)))), (4, .int (nI (nn (B.1 k) 2))), (3, .int (nI (nn (B.1 k) 6))), (2, .int (nI (nn (B.1 k) 1))), (0, .ref be), (1, .int (nI k))]) hx hb dL_isSo_451 hl (by decide) rfl (fun ls hl => ?_)
                                refine lv_iinc (v := nI (j + 1)) (lv' := [(17, .int (nI (j + 1))), (12, .int (nI (max tv 1))), (10, .int (nI (gd + b9))), (11, .int (nI (q9 + 10 + ((3 + u9) * cb)))), (16, .int (nI (q9 + 10 + ((3 + u9) * cb)))), (15, .int (nI u9)), (14, .int (nI q9)), (13, .int (nI i)), (9, .int (nI (nsS (B.1 k)))), (4, .int (nI (nn (B.1 k) 2))), (3, .int (nI (nn (B.1 k) 6))), (2, .int (nI (nn (B.1 k) 1))), (0, .ref be), (1, .int (nI k))]) hx hb dL_isSo_453 hl (k := 1) rfl (nI_add j 1) (by decide) rfl (fun ls hl => ?_)
                                refine lv_goto (tgt := 417) hx hb dL_isSo_456 (by decide) ?_
                                exact ih_417 (j + 1) (max tv 1) (by omega) (by first | assumption | omega | rfl) (by first | assumption | omega | rfl) (by rw [ex_s (Q := fun x => (vS (B.1 k)) (x * 9 + 1) = (vS (B.1 k)) (i * 9 + 1)), ← or_assoc, ← htv2]; have hw1 : (vS (B.1 k)) (j * 9 + 1) = _ := hw9.symm; have hw2 : (vS (B.1 k)) (i * 9 + 1) = _ := hw8.symm; rw [hw1, hw2]; exact ⟨fun _ => Or.inr c442, fun _ => by omega⟩) _ _ _ hP hD hS (lv_sub hl [0, 1, 2, 3, 4, 5, 6, 7, 8, 9, 10, 11, 12, 13] rfl)
                        exact lp_417 (i + 1) 0 tw (by omega) (by first | assumption | omega | rfl) (by first | assumption | omega | rfl) (by rw [htw2]; exact ⟨Or.inl, fun h => h.elim id (fun ⟨x, h1, _⟩ => absurd h1 (by omega))⟩) _ _ _ hP hD hS (lv_sub hl [0, 7, 1, 2, 3, 4, 5, 6, 8, 9, 10, 11, 12, 13] rfl)
                      refine lv_iconst (v := nI 4) hx hb dL_isSo_376 (by decide) ?_
                      refine lv_icmp_ge (tgt := 397) hx hb dL_isSo_377 (by decide) (fun c377 => ?_) (fun c377 => ?_)
                      ·
                        rw [qle (a := 4) (b := u9) (by omega) (by omega)] at c377
                        exact jn_397  trivial  _ _ _ hP hD hS (lv_sub hl [0, 1, 2, 3, 4, 5, 6, 7, 8, 9, 10, 11, 12] rfl)
                      ·
                        rw [qle (a := 4) (b := u9) (by omega) (by omega)] at c377
                        refine lv_aload_n hx hb dL_isSo_380 rfl (lv_at hl 11 rfl) ?_
                        refine lv_iload_n hx hb dL_isSo_381 rfl (lv_at hl 12 rfl) ?_
                        refine lv_iload hx hb dL_isSo_382 (lv_at hl 3 rfl) ?_
                        refine lv_iconst (v := nI 5) hx hb dL_isSo_384 (by decide) ?_
                        refine lv_iload hx hb dL_isSo_385 (lv_at hl 1 rfl) ?_
                        refine lv_iadd hx hb dL_isSo_387 ?_
                        rw [nI_add 5 u9]
                        have hF := chF [] hD hS hA
                        refine va_calli (va_runV (As := [.int (nI k), .int (nI i), .int (nI (5 + u9))]) (rest := []) ⟨hx, hb, hml, hown, hts⟩ (c_X6_ofSector_B l D kA z B be k i (5 + u9) (by first | assumption | omega) (by first | assumption | omega) (by first | assumption | omega) (by first | assumption | omega) (by first | assumption | omega) _) (cwV 3 hts h_L_isSo_14 rfl rfl rfl (by decide +kernel) ⟨Nat.le_of_ble_eq_true rfl, Nat.le_of_ble_eq_true rfl⟩) (fPvB [] (hbe) hK hP hD hS hG hF) rfl rfl hl.1 rfl (lv_room (Nat.le_of_ble_eq_true rfl)) dL_isSo_388 ⟨Nat.le_of_ble_eq_true rfl, Nat.le_of_ble_eq_true rfl⟩) hS (fun q _ h => hF q h) hF (fun r_45 w1 t H locs ht hvm hw hB hz1 hk1 hS => ?_)
                        obtain ⟨hP, hD⟩ := chJ [] hP hD hk1 hF ht hB
                        try dsimp only at hw
                        obtain ⟨rfl, e_45⟩ := hw
                        have hP : va_P D vwCl (wB kA B) H := hP
                        have hD : va_D A (wB kA B) := hD
                        have hv5 := e_45
                        refine lv_iconst (v := -1) hx hb dL_isSo_391 (by decide) ?_
                        refine lv_icmp_eq (tgt := 397) hx hb dL_isSo_392 (by decide) (fun _ => ?_) (fun c392 => absurd (by rw [hv5, show oSe (B.1 k) i (5 + u9) = (vS (B.1 k)) (i * 9 + 5 + u9) from congrArg (vS (B.1 k)) (show i * 9 + (5 + u9) = i * 9 + 5 + u9 by omega)]; exact hq13 u9 (Nat.le_refl _) (by omega)) c392)
                        exact jn_397  trivial  _ _ _ hP hD hS (lv_sub hl [0, 1, 2, 3, 4, 5, 6, 7, 8, 9, 10, 11, 12] rfl)
                    refine lv_icmp_ne (tgt := 291) hx hb dL_isSo_283 (by decide) (fun c283 => ?_) (fun c283 => ?_)
                    ·
                      rw [qeq (a := (nn (B.1 k) 0)) (b := 2) (by omega) (by omega)] at c283
                      refine lv_bipush (v := nI 16) hx hb dL_isSo_291 (by decide) ?_
                      exact jn_293 16 trivial (by first | exact (cB_2 (c := nn (B.1 k) 0) (by omega)).symm | exact (cB_n (c := nn (B.1 k) 0) (by omega)).symm) _ _ _ hP hD hS (lv_sub hl [0, 1, 2, 3, 4, 5, 6, 7, 8, 9, 10, 11] rfl)
                    ·
                      rw [qeq (a := (nn (B.1 k) 0)) (b := 2) (by omega) (by omega)] at c283
                      refine lv_bipush (v := nI 10) hx hb dL_isSo_286 (by decide) ?_
                      refine lv_goto (tgt := 293) hx hb dL_isSo_288 (by decide) ?_
                      exact jn_293 10 trivial (by first | exact (cB_2 (c := nn (B.1 k) 0) (by omega)).symm | exact (cB_n (c := nn (B.1 k) 0) (by omega)).symm) _ _ _ hP hD hS (lv_sub hl [0, 1, 2, 3, 4, 5, 6, 7, 8, 9, 10, 11] rfl)
              exact lp_240 (nsS (B.1 k) + 1) 0 0 0 0 (by omega) (by first | assumption | omega | rfl) rfl hE0.symm (by first | assumption | omega | rfl) (⟨fun h => absurd h (by decide), fun ⟨x, y, h1, h2, _⟩ => absurd h2 (by omega)⟩) _ _ _ hP hD hS (lv_sub hl [0, 1, 2, 3, 4, 8, 9, 10, 11, 12] rfl)
          ·
            rw [qle (a := 2) (b := (nn (B.1 k) 1)) (by omega) (by omega)] at c144
            refine lv_iload hx hb dL_isSo_147 (lv_at hl 3 rfl) ?_
            refine lv_if_ne (tgt := 168) hx hb dL_isSo_149 (by decide) (fun c149 => False.elim (by rw [qz (a := (nn (B.1 k) 2)) (by omega)] at c149; omega)) (fun _ => ?_)
            refine lv_iload_n hx hb dL_isSo_152 rfl (lv_at hl 5 rfl) ?_
            refine lv_iconst (v := nI 3) hx hb dL_isSo_153 (by decide) ?_
            refine lv_icmp_gt (tgt := 168) hx hb dL_isSo_154 (by decide) (fun c154 => False.elim (by rw [qlt (a := 3) (b := (nn (B.1 k) 1)) (by omega) (by omega)] at c154; omega)) (fun _ => ?_)
            refine lv_aload_n hx hb dL_isSo_157 rfl (lv_at hl 6 rfl) ?_
            refine lv_iload_n hx hb dL_isSo_158 rfl (lv_at hl 7 rfl) ?_
            refine lv_bipush (v := nI 10) hx hb dL_isSo_159 (by decide) ?_
            have hF := chF [] hD hS hA
            refine va_calli (va_runV (As := [.int (nI k), .int (nI 10)]) (rest := []) ⟨hx, hb, hml, hown, hts⟩ (c_X6_ofTrack_B10 l D kA z B be k (by first | assumption | omega) (by first | assumption | omega) (by first | assumption | omega) _) (cwV 2 hts h_L_isSo_3 rfl rfl rfl (by decide +kernel) ⟨Nat.le_of_ble_eq_true rfl, Nat.le_of_ble_eq_true rfl⟩) (fPvB [] (hbe) hK hP hD hS hG hF) rfl rfl hl.1 rfl (lv_room (Nat.le_of_ble_eq_true rfl)) dL_isSo_161 ⟨Nat.le_of_ble_eq_true rfl, Nat.le_of_ble_eq_true rfl⟩) hS (fun q _ h => hF q h) hF (fun r_46 w1 t H locs ht hvm hw hB hz1 hk1 hS => ?_)
            obtain ⟨hP, hD⟩ := chJ [] hP hD hk1 hF ht hB
            try dsimp only at hw
            obtain ⟨rfl, e_46⟩ := hw
            replace e_46 := e_46.symm
            subst e_46
            have hP : va_P D vwCl (wB kA B) H := hP
            have hD : va_D A (wB kA B) := hD
            refine lv_iload_n hx hb dL_isSo_164 rfl (lv_at hl 5 rfl) ?_
            refine lv_icmp_ge (tgt := 170) hx hb dL_isSo_165 (by decide) (fun _ => ?_) (fun c165 => False.elim (by rw [qle (a := (nn (B.1 k) 1)) (b := (nn (B.1 k) 3)) (by omega) (by omega)] at c165; omega))
            refine lv_aload_n hx hb dL_isSo_170 rfl (lv_at hl 6 rfl) ?_
            refine lv_iload_n hx hb dL_isSo_171 rfl (lv_at hl 7 rfl) ?_
            have hF := chF [] hD hS hA
            refine va_calld (va_runV (As := [.int (nI k)]) (rest := []) ⟨hx, hb, hml, hown, hts⟩ (c_X6_sure_B l D kA z B be k (by first | assumption | omega) (by first | assumption | omega) (by first | assumption | omega) _) (cwV 1 hts h_L_isSo_4 rfl rfl rfl (by decide +kernel) ⟨Nat.le_of_ble_eq_true rfl, Nat.le_of_ble_eq_true rfl⟩) (fPvB [] (hbe) hK hP hD hS hG hF) rfl rfl hl.1 rfl (lv_room (Nat.le_of_ble_eq_true rfl)) dL_isSo_172 ⟨Nat.le_of_ble_eq_true rfl, Nat.le_of_ble_eq_true rfl⟩) hS (fun q _ h => hF q h) hF (fun r_47 w1 t H locs ht hvm hw hB hz1 hk1 hS => ?_)
            obtain ⟨hP, hD⟩ := chJ [] hP hD hk1 hF ht hB
            try dsimp only at hw
            obtain ⟨rfl, e_47⟩ := hw
            have hP : va_P D vwCl (wB kA B) H := hP
            have hD : va_D A (wB kA B) := hD
            have hsu := e_47
            refine lv_dstore (lv' := [(7, .double r_47), (6, .int (nI lg9)), (5, .int (nI sh9)), (4, .int (nI (nn (B.1 k) 2))), (3, .int (nI (nn (B.1 k) 6))), (2, .int (nI (nn (B.1 k) 1))), (0, .ref be), (1, .int (nI k))]) hx hb dL_isSo_175 hl (by decide) rfl (fun ls hl => ?_)
            refine lv_iload_n hx hb dL_isSo_177 rfl (lv_at hl 4 rfl) ?_
            refine lv_iload hx hb dL_isSo_178 (lv_at hl 3 rfl) ?_
            refine lv_iadd hx hb dL_isSo_180 ?_
            rw [nI_add (nn (B.1 k) 6) (nn (B.1 k) 2)]
            refine lv_if_ne (tgt := 194) hx hb dL_isSo_181 (by decide) (fun c181 => ?_) (fun c181 => ?_)
            ·
              rw [qz (a := (nn (B.1 k) 6 + (nn (B.1 k) 2))) (by omega)] at c181
              have hnz : nn (B.1 k) 6 + nn (B.1 k) 2 ≠ 0 := by omega
              have hfs : r_47 = fpS (nn (B.1 k) 2) (nn (B.1 k) 6) := by rw [hsu, sureF, if_neg (by omega)]; rfl
              have hfp := fp_ok (u := nn (B.1 k) 2) (v := nn (B.1 k) 6) iU iV hnz
              have hls9 : lv_has ls 18 [(7, .double (fpS (nn (B.1 k) 2) (nn (B.1 k) 6))), (6, .int (nI lg9)), (5, .int (nI sh9)), (4, .int (nI (nn (B.1 k) 2))), (3, .int (nI (nn (B.1 k) 6))), (2, .int (nI (nn (B.1 k) 1))), (0, .ref be), (1, .int (nI k))] := by rw [hfs] at hl; exact hl
              have hl := hls9
              refine lv_dconst1 hx hb dL_isSo_194 ?_
              refine lv_dload hx hb dL_isSo_195 (lv_at hl 0 rfl) ?_
              refine lv_dsub hx hb dL_isSo_197 (n64 hfp.1) ?_
              refine lv_iload_n hx hb dL_isSo_198 rfl (lv_at hl 4 rfl) ?_
              refine lv_iload hx hb dL_isSo_199 (lv_at hl 3 rfl) ?_
              refine lv_iadd hx hb dL_isSo_201 ?_
              rw [nI_add (nn (B.1 k) 6) (nn (B.1 k) 2)]
              refine lv_i2d hx hb dL_isSo_202 ?_
              refine lv_dmul hx hb dL_isSo_203 (n64 hfp.2.1) ?_
              refine lv_iload hx hb dL_isSo_204 (lv_at hl 3 rfl) ?_
              refine lv_i2d hx hb dL_isSo_206 ?_
              refine lv_dsub hx hb dL_isSo_207 (n64 hfp.2.2.1) ?_
              refine vn_absD hx hb (by rw [hml]; exact hl.1.symm) hown (y := yJ9_abs_294c1) rfl (wAt hts 8 (w := .methodLink RL 113 yJ9_abs_294c1) rfl) (wAt hts 9 (w := .code yJ9_abs_294c1 cJ9_abs_294c1 2 (some .double)) rfl) (wAt hts 10 (w := .static yJ9_abs_294c1) rfl) (wAt hts 11 (w := .initialized "java/lang/Math") rfl) (n64 hfp.2.2.1) (Nat.le_of_ble_eq_true rfl) (Nat.le_of_ble_eq_true rfl) dL_isSo_208 ?_
              refine lv_ldc2d hx hb hown (wAt hts 12 (w := .constantDouble RL 117 (4547007122018943789)) rfl) dL_isSo_211 ?_
              refine lv_dcmp hx hb dL_isSo_214 ?_
              refine lv_if_le (tgt := 220) hx hb dL_isSo_215 (by decide) (fun _ => ?_) (fun c215 => absurd (cmpL2 (by have h := hfp.2.2.2; rw [ab_eq] at h; exact h)) c215)
              refine lv_aload_n hx hb dL_isSo_220 rfl (lv_at hl 6 rfl) ?_
              refine lv_iload_n hx hb dL_isSo_221 rfl (lv_at hl 7 rfl) ?_
              refine lv_iconst (v := nI 5) hx hb dL_isSo_222 (by decide) ?_
              have hF := chF [] hD hS hA
              refine va_calli (va_runV (As := [.int (nI k), .int (nI 5)]) (rest := []) ⟨hx, hb, hml, hown, hts⟩ (c_X6_ofTrack_B5 l D kA z B be k (by first | assumption | omega) (by first | assumption | omega) (by first | assumption | omega) _) (cwV 2 hts h_L_isSo_5 rfl rfl rfl (by decide +kernel) ⟨Nat.le_of_ble_eq_true rfl, Nat.le_of_ble_eq_true rfl⟩) (fPvB [] (hbe) hK hP hD hS hG hF) rfl rfl hl.1 rfl (lv_room (Nat.le_of_ble_eq_true rfl)) dL_isSo_223 ⟨Nat.le_of_ble_eq_true rfl, Nat.le_of_ble_eq_true rfl⟩) hS (fun q _ h => hF q h) hF (fun r_48 w1 t H locs ht hvm hw hB hz1 hk1 hS => ?_)
              obtain ⟨hP, hD⟩ := chJ [] hP hD hk1 hF ht hB
              try dsimp only at hw
              obtain ⟨rfl, e_48⟩ := hw
              replace e_48 := e_48.symm
              subst e_48
              have hP : va_P D vwCl (wB kA B) H := hP
              have hD : va_D A (wB kA B) := hD
              refine lv_istore (lv' := [(9, .int (nI (nsS (B.1 k)))), (7, .double (fpS (nn (B.1 k) 2) (nn (B.1 k) 6))), (6, .int (nI lg9)), (5, .int (nI sh9)), (4, .int (nI (nn (B.1 k) 2))), (3, .int (nI (nn (B.1 k) 6))), (2, .int (nI (nn (B.1 k) 1))), (0, .ref be), (1, .int (nI k))]) hx hb dL_isSo_226 hl (by decide) rfl (fun ls hl => ?_)
              refine lv_iconst (v := nI 0) hx hb dL_isSo_228 (by decide) ?_
              refine lv_istore (lv' := [(10, .int (nI 0)), (9, .int (nI (nsS (B.1 k)))), (7, .double (fpS (nn (B.1 k) 2) (nn (B.1 k) 6))), (6, .int (nI lg9)), (5, .int (nI sh9)), (4, .int (nI (nn (B.1 k) 2))), (3, .int (nI (nn (B.1 k) 6))), (2, .int (nI (nn (B.1 k) 1))), (0, .ref be), (1, .int (nI k))]) hx hb dL_isSo_229 hl (by decide) rfl (fun ls hl => ?_)
              refine lv_iconst (v := nI 0) hx hb dL_isSo_231 (by decide) ?_
              refine lv_istore (lv' := [(11, .int (nI 0)), (10, .int (nI 0)), (9, .int (nI (nsS (B.1 k)))), (7, .double (fpS (nn (B.1 k) 2) (nn (B.1 k) 6))), (6, .int (nI lg9)), (5, .int (nI sh9)), (4, .int (nI (nn (B.1 k) 2))), (3, .int (nI (nn (B.1 k) 6))), (2, .int (nI (nn (B.1 k) 1))), (0, .ref be), (1, .int (nI k))]) hx hb dL_isSo_232 hl (by decide) rfl (fun ls hl => ?_)
              refine lv_iconst (v := nI 0) hx hb dL_isSo_234 (by decide) ?_
              refine lv_istore (lv' := [(12, .int (nI 0)), (11, .int (nI 0)), (10, .int (nI 0)), (9, .int (nI (nsS (B.1 k)))), (7, .double (fpS (nn (B.1 k) 2) (nn (B.1 k) 6))), (6, .int (nI lg9)), (5, .int (nI sh9)), (4, .int (nI (nn (B.1 k) 2))), (3, .int (nI (nn (B.1 k) 6))), (2, .int (nI (nn (B.1 k) 1))), (0, .ref be), (1, .int (nI k))]) hx hb dL_isSo_235 hl (by decide) rfl (fun ls hl => ?_)
              refine lv_iconst (v := nI 0) hx hb dL_isSo_237 (by decide) ?_
              refine lv_istore (lv' := [(13, .int (nI 0)), (12, .int (nI 0)), (11, .int (nI 0)), (10, .int (nI 0)), (9, .int (nI (nsS (B.1 k)))), (7, .double (fpS (nn (B.1 k) 2) (nn (B.1 k) 6))), (6, .int (nI lg9)), (5, .int (nI sh9)), (4, .int (nI (nn (B.1 k) 2))), (3, .int (nI (nn (B.1 k) 6))), (2, .int (nI (nn (B.1 k) 1))), (0, .ref be), (1, .int (nI k))]) hx hb dL_isSo_238 hl (by decide) rfl (fun ls hl => ?_)
              have lp_240 : ∀ (n_240 : Nat) (i : Nat) (gd : Nat) (at9 : Nat) (tw : Nat), nsS (B.1 k) - i < n_240 → (i ≤ nsS (B.1 k)) → (gd = cntG (vS (B.1 k)) i) → (at9 = E i) → (tw ≤ 1) → (tw = 1 ↔ isTw (vS (B.1 k)) i) → ∀ (H : Heap) (locs : List Loc) (ls : Array Slot), va_P D vwCl (wB kA B) H → va_D A (wB kA B) → va_S A s.heap H locs → lv_has ls 18 [(13, .int (nI i)), (12, .int (nI tw)), (11, .int (nI at9)), (10, .int (nI gd)), (9, .int (nI (nsS (B.1 k)))), (4, .int (nI (nn (B.1 k) 2))), (3, .int (nI (nn (B.1 k) 6))), (2, .int (nI (nn (B.1 k) 1))), (0, .ref be), (1, .int (nI k))] → W p l e ({ frames := 4, cells := 0, slots := 0, locals := 90 }) s m args below meth c H locs 0 0 (MQ below (va_Qi (fun r w => w = (wB kA B) ∧ (r = nI 1)) (fB D (tyL kA) A) A) args s 0 0 A) (F0 m 240 ls []) := by
                clear hP hD hS hl
                intro n_240
                induction n_240 with
                | zero =>
                  intro i gd at9 tw hm_240 hi1 hgd hat htw1 htw2
                  exact absurd hm_240 (by omega)
                | succ n_240 ih_240 =>
                  intro i gd at9 tw hm_240 hi1 hgd hat htw1 htw2 H locs ls hP hD hS hl
                  have hgd8 := cntG_le (vS (B.1 k)) i
                  rw [← hgd] at hgd8
                  refine lv_iload hx hb dL_isSo_240 (lv_at hl 0 rfl) ?_
                  refine lv_iload hx hb dL_isSo_242 (lv_at hl 4 rfl) ?_
                  refine lv_icmp_ge (tgt := 465) hx hb dL_isSo_244 (by decide) (fun c244 => ?_) (fun c244 => ?_)
                  ·
                    rw [qle (a := (nsS (B.1 k))) (b := i) (by omega) (by omega)] at c244
                    rw [show i = nsS (B.1 k) from by omega] at hgd htw2
                    have hgN : gd = ngS (B.1 k) := by rw [hgd, hngE]
                    have htN := twN_of htw1 htw2
                    refine lv_iload hx hb dL_isSo_465 (lv_at hl 4 rfl) ?_
                    refine lv_iload hx hb dL_isSo_467 (lv_at hl 3 rfl) ?_
                    have jn_477 : ∀ (g1 : Nat) (_ : True), (g1 = if gd < nsS (B.1 k) then 1 else 0) → ∀ (H : Heap) (locs : List Loc) (ls : Array Slot), va_P D vwCl (wB kA B) H → va_D A (wB kA B) → va_S A s.heap H locs → lv_has ls 18 [(13, .int (nI i)), (12, .int (nI tw)), (11, .int (nI at9)), (10, .int (nI gd)), (9, .int (nI (nsS (B.1 k)))), (4, .int (nI (nn (B.1 k) 2))), (3, .int (nI (nn (B.1 k) 6))), (2, .int (nI (nn (B.1 k) 1))), (0, .ref be), (1, .int (nI k))] → W p l e ({ frames := 4, cells := 0, slots := 0, locals := 90 }) s m args below meth c H locs 0 0 (MQ below (va_Qi (fun r w => w = (wB kA B) ∧ (r = nI 1)) (fB D (tyL kA) A) A) args s 0 0 A) (F0 m 477 ls [.int (nI g1)]) := by
                      clear hP hD hS hl
                      intro g1 _ hg1 H locs ls hP hD hS hl
                      refine lv_iload hx hb dL_isSo_477 (lv_at hl 1 rfl) ?_
                      have jn_487 : ∀ (g2 : Nat) (_ : True), (g2 = if tw = 1 then 2 else 0) → ∀ (H : Heap) (locs : List Loc) (ls : Array Slot), va_P D vwCl (wB kA B) H → va_D A (wB kA B) → va_S A s.heap H locs → lv_has ls 18 [(13, .int (nI i)), (12, .int (nI tw)), (11, .int (nI at9)), (10, .int (nI gd)), (9, .int (nI (nsS (B.1 k)))), (4, .int (nI (nn (B.1 k) 2))), (3, .int (nI (nn (B.1 k) 6))), (2, .int (nI (nn (B.1 k) 1))), (0, .ref be), (1, .int (nI k))] → W p l e ({ frames := 4, cells := 0, slots := 0, locals := 90 }) s m args below meth c H locs 0 0 (MQ below (va_Qi (fun r w => w = (wB kA B) ∧ (r = nI 1)) (fB D (tyL kA) A) A) args s 0 0 A) (F0 m 487 ls [.int (nI g2), .int (nI g1)]) := by
                        clear hP hD hS hl
                        intro g2 _ hg2 H locs ls hP hD hS hl
                        refine lv_iadd hx hb dL_isSo_487 ?_
                        rw [nI_add g1 g2]
                        refine lv_iload hx hb dL_isSo_488 (lv_at hl 5 rfl) ?_
                        have jn_498 : ∀ (g3 : Nat) (_ : True), (g3 = if 0 < nn (B.1 k) 2 then 4 else 0) → ∀ (H : Heap) (locs : List Loc) (ls : Array Slot), va_P D vwCl (wB kA B) H → va_D A (wB kA B) → va_S A s.heap H locs → lv_has ls 18 [(13, .int (nI i)), (12, .int (nI tw)), (11, .int (nI at9)), (10, .int (nI gd)), (9, .int (nI (nsS (B.1 k)))), (4, .int (nI (nn (B.1 k) 2))), (3, .int (nI (nn (B.1 k) 6))), (2, .int (nI (nn (B.1 k) 1))), (0, .ref be), (1, .int (nI k))] → W p l e ({ frames := 4, cells := 0, slots := 0, locals := 90 }) s m args below meth c H locs 0 0 (MQ below (va_Qi (fun r w => w = (wB kA B) ∧ (r = nI 1)) (fB D (tyL kA) A) A) args s 0 0 A) (F0 m 498 ls [.int (nI g3), .int (nI (g1 + g2))]) := by
                          clear hP hD hS hl
                          intro g3 _ hg3 H locs ls hP hD hS hl
                          refine lv_iadd hx hb dL_isSo_498 ?_
                          rw [nI_add (g1 + g2) g3]
                          refine lv_aload_n hx hb dL_isSo_499 rfl (lv_at hl 8 rfl) ?_
                          refine lv_iload_n hx hb dL_isSo_500 rfl (lv_at hl 9 rfl) ?_
                          refine lv_bipush (v := nI 7) hx hb dL_isSo_501 (by decide) ?_
                          have hF := chF [] hD hS hA
                          refine va_calli (va_runV (As := [.int (nI k), .int (nI 7)]) (rest := [.int (nI (g1 + g2 + g3))]) ⟨hx, hb, hml, hown, hts⟩ (c_X6_ofTrack_B7 l D kA z B be k (by first | assumption | omega) (by first | assumption | omega) (by first | assumption | omega) _) (cwV 2 hts h_L_isSo_6 rfl rfl rfl (by decide +kernel) ⟨Nat.le_of_ble_eq_true rfl, Nat.le_of_ble_eq_true rfl⟩) (fPvB [] (hbe) hK hP hD hS hG hF) rfl rfl hl.1 rfl (lv_room (Nat.le_of_ble_eq_true rfl)) dL_isSo_503 ⟨Nat.le_of_ble_eq_true rfl, Nat.le_of_ble_eq_true rfl⟩) hS (fun q _ h => hF q h) hF (fun r_49 w1 t H locs ht hvm hw hB hz1 hk1 hS => ?_)
                          obtain ⟨hP, hD⟩ := chJ [] hP hD hk1 hF ht hB
                          try dsimp only at hw
                          obtain ⟨rfl, e_49⟩ := hw
                          replace e_49 := e_49.symm
                          subst e_49
                          have hP : va_P D vwCl (wB kA B) H := hP
                          have hD : va_D A (wB kA B) := hD
                          have jn_515 : ∀ (g4 : Nat) (_ : True), (g4 = if 0 < stS (B.1 k) then 8 else 0) → ∀ (H : Heap) (locs : List Loc) (ls : Array Slot), va_P D vwCl (wB kA B) H → va_D A (wB kA B) → va_S A s.heap H locs → lv_has ls 18 [(13, .int (nI i)), (12, .int (nI tw)), (11, .int (nI at9)), (10, .int (nI gd)), (9, .int (nI (nsS (B.1 k)))), (4, .int (nI (nn (B.1 k) 2))), (3, .int (nI (nn (B.1 k) 6))), (2, .int (nI (nn (B.1 k) 1))), (0, .ref be), (1, .int (nI k))] → W p l e ({ frames := 4, cells := 0, slots := 0, locals := 90 }) s m args below meth c H locs 0 0 (MQ below (va_Qi (fun r w => w = (wB kA B) ∧ (r = nI 1)) (fB D (tyL kA) A) A) args s 0 0 A) (F0 m 515 ls [.int (nI g4), .int (nI (g1 + g2 + g3))]) := by
                            clear hP hD hS hl
                            intro g4 _ hg4 H locs ls hP hD hS hl
                            refine lv_iadd hx hb dL_isSo_515 ?_
                            rw [nI_add (g1 + g2 + g3) g4]
                            refine lv_bipush (v := nI 16) hx hb dL_isSo_516 (by decide) ?_
                            refine lv_aload_n hx hb dL_isSo_518 rfl (lv_at hl 8 rfl) ?_
                            refine lv_iload_n hx hb dL_isSo_519 rfl (lv_at hl 9 rfl) ?_
                            refine lv_bipush (v := nI 8) hx hb dL_isSo_520 (by decide) ?_
                            have hF := chF [] hD hS hA
                            refine va_calli (va_runV (As := [.int (nI k), .int (nI 8)]) (rest := [.int (nI 16), .int (nI (g1 + g2 + g3 + g4))]) ⟨hx, hb, hml, hown, hts⟩ (c_X6_ofTrack_B8 l D kA z B be k (by first | assumption | omega) (by first | assumption | omega) (by first | assumption | omega) _) (cwV 2 hts h_L_isSo_7 rfl rfl rfl (by decide +kernel) ⟨Nat.le_of_ble_eq_true rfl, Nat.le_of_ble_eq_true rfl⟩) (fPvB [] (hbe) hK hP hD hS hG hF) rfl rfl hl.1 rfl (lv_room (Nat.le_of_ble_eq_true rfl)) dL_isSo_522 ⟨Nat.le_of_ble_eq_true rfl, Nat.le_of_ble_eq_true rfl⟩) hS (fun q _ h => hF q h) hF (fun r_50 w1 t H locs ht hvm hw hB hz1 hk1 hS => ?_)
                            obtain ⟨hP, hD⟩ := chJ [] hP hD hk1 hF ht hB
                            try dsimp only at hw
                            obtain ⟨rfl, e_50⟩ := hw
                            replace e_50 := e_50.symm
                            subst e_50
                            have hP : va_P D vwCl (wB kA B) H := hP
                            have hD : va_D A (wB kA B) := hD
                            refine lv_imul hx hb dL_isSo_525 ?_
                            rw [pk_mul 16 (cuS (B.1 k))]
                            refine lv_iadd hx hb dL_isSo_526 ?_
                            rw [nI_add (g1 + g2 + g3 + g4) (16 * (cuS (B.1 k)))]
                            refine lv_iload_n hx hb dL_isSo_527 rfl (lv_at hl 6 rfl) ?_
                            refine lv_sipush (v := nI 300) hx hb dL_isSo_528 (by decide) ?_
                            have jn_540 : ∀ (g6 : Nat) (_ : True), (g6 = if 300 < nn (B.1 k) 6 then 32 else 0) → ∀ (H : Heap) (locs : List Loc) (ls : Array Slot), va_P D vwCl (wB kA B) H → va_D A (wB kA B) → va_S A s.heap H locs → lv_has ls 18 [(13, .int (nI i)), (12, .int (nI tw)), (11, .int (nI at9)), (10, .int (nI gd)), (9, .int (nI (nsS (B.1 k)))), (4, .int (nI (nn (B.1 k) 2))), (3, .int (nI (nn (B.1 k) 6))), (2, .int (nI (nn (B.1 k) 1))), (0, .ref be), (1, .int (nI k))] → W p l e ({ frames := 4, cells := 0, slots := 0, locals := 90 }) s m args below meth c H locs 0 0 (MQ below (va_Qi (fun r w => w = (wB kA B) ∧ (r = nI 1)) (fB D (tyL kA) A) A) args s 0 0 A) (F0 m 540 ls [.int (nI g6), .int (nI (g1 + g2 + g3 + g4 + (16 * (cuS (B.1 k)))))]) := by
                              clear hP hD hS hl
                              intro g6 _ hg6 H locs ls hP hD hS hl
                              refine lv_iadd hx hb dL_isSo_540 ?_
                              rw [nI_add (g1 + g2 + g3 + g4 + (16 * (cuS (B.1 k)))) g6]
                              have hgS : gdS (B.1 k) = g1 + g2 + g3 + g4 + 16 * cuS (B.1 k) + g6 := by rw [gdS_eq, ← hgN, ← htN, ← hg1, ← hg2, ← hg3, ← hg4, ← hg6]; rcases (show cuS (B.1 k) = 0 ∨ cuS (B.1 k) = 1 by omega) with h | h <;> rw [h] <;> rfl
                              have hg1b : g1 ≤ 1 := by rw [hg1]; split <;> omega
                              have hg2b : g2 ≤ 2 := by rw [hg2]; split <;> omega
                              have hg3b : g3 ≤ 4 := by rw [hg3]; split <;> omega
                              have hg4b : g4 ≤ 8 := by rw [hg4]; split <;> omega
                              have hg6b : g6 ≤ 32 := by rw [hg6]; split <;> omega
                              refine lv_istore (lv' := [(13, .int (nI (g1 + g2 + g3 + g4 + (16 * (cuS (B.1 k))) + g6))), (12, .int (nI tw)), (11, .int (nI at9)), (10, .int (nI gd)), (9, .int (nI (nsS (B.1 k)))), (4, .int (nI (nn (B.1 k) 2))), (3, .int (nI (nn (B.1 k) 6))), (2, .int (nI (nn (B.1 k) 1))), (0, .ref be), (1, .int (nI k))]) hx hb dL_isSo_541 hl (by decide) rfl (fun ls hl => ?_)
                              refine lv_aload_n hx hb dL_isSo_543 rfl (lv_at hl 8 rfl) ?_
                              refine lv_iload_n hx hb dL_isSo_544 rfl (lv_at hl 9 rfl) ?_
                              have hF := chF [] hD hS hA
                              refine va_calli (va_runV (As := [.int (nI k)]) (rest := []) ⟨hx, hb, hml, hown, hts⟩ (c_X6_plainLong_B l D kA z B be k (by first | assumption | omega) (by first | assumption | omega) (by first | assumption | omega) _) (cwV 1 hts h_L_isSo_8 rfl rfl rfl (by decide +kernel) ⟨Nat.le_of_ble_eq_true rfl, Nat.le_of_ble_eq_true rfl⟩) (fPvB [] (hbe) hK hP hD hS hG hF) rfl rfl hl.1 rfl (lv_room (Nat.le_of_ble_eq_true rfl)) dL_isSo_545 ⟨Nat.le_of_ble_eq_true rfl, Nat.le_of_ble_eq_true rfl⟩) hS (fun q _ h => hF q h) hF (fun r_51 w1 t H locs ht hvm hw hB hz1 hk1 hS => ?_)
                              obtain ⟨hP, hD⟩ := chJ [] hP hD hk1 hF ht hB
                              try dsimp only at hw
                              obtain ⟨rfl, e_51⟩ := hw
                              replace e_51 := e_51.symm
                              subst e_51
                              have hP : va_P D vwCl (wB kA B) H := hP
                              have hD : va_D A (wB kA B) := hD
                              refine lv_istore (lv' := [(14, .int (nI (plS (B.1 k)))), (13, .int (nI (g1 + g2 + g3 + g4 + (16 * (cuS (B.1 k))) + g6))), (12, .int (nI tw)), (11, .int (nI at9)), (10, .int (nI gd)), (9, .int (nI (nsS (B.1 k)))), (4, .int (nI (nn (B.1 k) 2))), (3, .int (nI (nn (B.1 k) 6))), (2, .int (nI (nn (B.1 k) 1))), (0, .ref be), (1, .int (nI k))]) hx hb dL_isSo_548 hl (by decide) rfl (fun ls hl => ?_)
                              refine lv_aload_n hx hb dL_isSo_550 rfl (lv_at hl 9 rfl) ?_
                              refine lv_iload_n hx hb dL_isSo_551 rfl (lv_at hl 10 rfl) ?_
                              refine lv_bipush (v := nI 6) hx hb dL_isSo_552 (by decide) ?_
                              have hF := chF [] hD hS hA
                              refine va_calli (va_runV (As := [.int (nI k), .int (nI 6)]) (rest := []) ⟨hx, hb, hml, hown, hts⟩ (c_X6_ofTrack_B6 l D kA z B be k (by first | assumption | omega) (by first | assumption | omega) (by first | assumption | omega) _) (cwV 2 hts h_L_isSo_9 rfl rfl rfl (by decide +kernel) ⟨Nat.le_of_ble_eq_true rfl, Nat.le_of_ble_eq_true rfl⟩) (fPvB [] (hbe) hK hP hD hS hG hF) rfl rfl hl.1 rfl (lv_room (Nat.le_of_ble_eq_true rfl)) dL_isSo_554 ⟨Nat.le_of_ble_eq_true rfl, Nat.le_of_ble_eq_true rfl⟩) hS (fun q _ h => hF q h) hF (fun r_52 w1 t H locs ht hvm hw hB hz1 hk1 hS => ?_)
                              obtain ⟨hP, hD⟩ := chJ [] hP hD hk1 hF ht hB
                              try dsimp only at hw
                              obtain ⟨rfl, e_52⟩ := hw
                              replace e_52 := e_52.symm
                              subst e_52
                              have hP : va_P D vwCl (wB kA B) H := hP
                              have hD : va_D A (wB kA B) := hD
                              refine lv_iload hx hb dL_isSo_557 (lv_at hl 4 rfl) ?_
                              refine lv_icmp_ne (tgt := 638) hx hb dL_isSo_559 (by decide) (fun c559 => False.elim (by rw [qeq (a := (ngS (B.1 k))) (b := gd) (by omega) (by omega)] at c559; omega)) (fun _ => ?_)
                              refine lv_aload_n hx hb dL_isSo_562 rfl (lv_at hl 9 rfl) ?_
                              refine lv_iload_n hx hb dL_isSo_563 rfl (lv_at hl 10 rfl) ?_
                              refine lv_bipush (v := nI 9) hx hb dL_isSo_564 (by decide) ?_
                              have hF := chF [] hD hS hA
                              refine va_calli (va_runV (As := [.int (nI k), .int (nI 9)]) (rest := []) ⟨hx, hb, hml, hown, hts⟩ (c_X6_ofTrack_B9 l D kA z B be k (by first | assumption | omega) (by first | assumption | omega) (by first | assumption | omega) _) (cwV 2 hts h_L_isSo_10 rfl rfl rfl (by decide +kernel) ⟨Nat.le_of_ble_eq_true rfl, Nat.le_of_ble_eq_true rfl⟩) (fPvB [] (hbe) hK hP hD hS hG hF) rfl rfl hl.1 rfl (lv_room (Nat.le_of_ble_eq_true rfl)) dL_isSo_566 ⟨Nat.le_of_ble_eq_true rfl, Nat.le_of_ble_eq_true rfl⟩) hS (fun q _ h => hF q h) hF (fun r_53 w1 t H locs ht hvm hw hB hz1 hk1 hS => ?_)
                              obtain ⟨hP, hD⟩ := chJ [] hP hD hk1 hF ht hB
                              try dsimp only at hw
                              obtain ⟨rfl, e_53⟩ := hw
                              replace e_53 := e_53.symm
                              subst e_53
                              have hP : va_P D vwCl (wB kA B) H := hP
                              have hD : va_D A (wB kA B) := hD
                              refine lv_iload hx hb dL_isSo_569 (lv_at hl 1 rfl) ?_
                              refine lv_icmp_ne (tgt := 638) hx hb dL_isSo_571 (by decide) (fun c571 => False.elim (by rw [qeq (a := (gdS (B.1 k))) (b := (g1 + g2 + g3 + g4 + (16 * (cuS (B.1 k))) + g6)) (by omega) (by omega)] at c571; omega)) (fun _ => ?_)
                              refine lv_aload_n hx hb dL_isSo_574 rfl (lv_at hl 9 rfl) ?_
                              refine lv_iload_n hx hb dL_isSo_575 rfl (lv_at hl 10 rfl) ?_
                              have hF := chF [] hD hS hA
                              refine va_calli (va_runV (As := [.int (nI k)]) (rest := []) ⟨hx, hb, hml, hown, hts⟩ (c_X6_wouldLose_B l D kA z B be k (by first | assumption | omega) (by first | assumption | omega) (by first | assumption | omega) _) (cwV 1 hts h_L_isSo_11 rfl rfl rfl (by decide +kernel) ⟨Nat.le_of_ble_eq_true rfl, Nat.le_of_ble_eq_true rfl⟩) (fPvB [] (hbe) hK hP hD hS hG hF) rfl rfl hl.1 rfl (lv_room (Nat.le_of_ble_eq_true rfl)) dL_isSo_576 ⟨Nat.le_of_ble_eq_true rfl, Nat.le_of_ble_eq_true rfl⟩) hS (fun q _ h => hF q h) hF (fun r_54 w1 t H locs ht hvm hw hB hz1 hk1 hS => ?_)
                              obtain ⟨hP, hD⟩ := chJ [] hP hD hk1 hF ht hB
                              try dsimp only at hw
                              obtain ⟨rfl, e_54⟩ := hw
                              have hP : va_P D vwCl (wB kA B) H := hP
                              have hD : va_D A (wB kA B) := hD
                              have hwl := e_54
                              refine lv_iload hx hb dL_isSo_579 (lv_at hl 1 rfl) ?_
                              refine lv_iconst (v := -1) hx hb dL_isSo_581 (by decide) ?_
                              refine lv_ixor hx hb dL_isSo_582 ?_
                              refine lv_iand hx hb dL_isSo_583 ?_
                              refine lv_if_ne (tgt := 638) hx hb dL_isSo_584 (by decide) (fun c584 => absurd (by rw [hwl, ← hgS]; exact wl_0) c584) (fun _ => ?_)
                              refine lv_aload_n hx hb dL_isSo_587 rfl (lv_at hl 9 rfl) ?_
                              refine lv_iload_n hx hb dL_isSo_588 rfl (lv_at hl 10 rfl) ?_
                              refine lv_aload_n hx hb dL_isSo_589 rfl (lv_at hl 9 rfl) ?_
                              refine lv_iload_n hx hb dL_isSo_590 rfl (lv_at hl 10 rfl) ?_
                              refine lv_iconst (v := nI 0) hx hb dL_isSo_591 (by decide) ?_
                              have hF := chF [] hD hS hA
                              refine va_calli (va_runV (As := [.int (nI k), .int (nI 0)]) (rest := [.int (nI k), .ref be]) ⟨hx, hb, hml, hown, hts⟩ (c_X6_ofTrack_B0 l D kA z B be k (by first | assumption | omega) (by first | assumption | omega) (by first | assumption | omega) _) (cwV 2 hts h_L_isSo_12 rfl rfl rfl (by decide +kernel) ⟨Nat.le_of_ble_eq_true rfl, Nat.le_of_ble_eq_true rfl⟩) (fPvB [] (hbe) hK hP hD hS hG hF) rfl rfl hl.1 rfl (lv_room (Nat.le_of_ble_eq_true rfl)) dL_isSo_592 ⟨Nat.le_of_ble_eq_true rfl, Nat.le_of_ble_eq_true rfl⟩) hS (fun q _ h => hF q h) hF (fun r_55 w1 t H locs ht hvm hw hB hz1 hk1 hS => ?_)
                              obtain ⟨hP, hD⟩ := chJ [] hP hD hk1 hF ht hB
                              try dsimp only at hw
                              obtain ⟨rfl, e_55⟩ := hw
                              replace e_55 := e_55.symm
                              subst e_55
                              have hP : va_P D vwCl (wB kA B) H := hP
                              have hD : va_D A (wB kA B) := hD
                              have hF := chF [] hD hS hA
                              refine va_calli (va_runV (As := [.int (nI k), .int (nI (nn (B.1 k) 0))]) (rest := []) ⟨hx, hb, hml, hown, hts⟩ (c_X6_goodBy_B l D kA z B be k (nn (B.1 k) 0) (by first | assumption | omega) (by first | assumption | omega) (by first | assumption | omega) (by first | assumption | omega) _) (cwV 2 hts h_L_isSo_13 rfl rfl rfl (by decide +kernel) ⟨Nat.le_of_ble_eq_true rfl, Nat.le_of_ble_eq_true rfl⟩) (fPvB [] (hbe) hK hP hD hS hG hF) rfl rfl hl.1 rfl (lv_room (Nat.le_of_ble_eq_true rfl)) dL_isSo_595 ⟨Nat.le_of_ble_eq_true rfl, Nat.le_of_ble_eq_true rfl⟩) hS (fun q _ h => hF q h) hF (fun r_56 w1 t H locs ht hvm hw hB hz1 hk1 hS => ?_)
                              obtain ⟨hP, hD⟩ := chJ [] hP hD hk1 hF ht hB
                              try dsimp only at hw
                              obtain ⟨rfl, e_56⟩ := hw
                              replace e_56 := e_56.symm
                              subst e_56
                              have hP : va_P D vwCl (wB kA B) H := hP
                              have hD : va_D A (wB kA B) := hD
                              refine lv_iload hx hb dL_isSo_598 (lv_at hl 4 rfl) ?_
                              have hgo : ow (nn (B.1 k) 0) (nn (B.1 k) 14) (nn (B.1 k) 8) = gd := by rw [hgN]; rfl
                              refine lv_icmp_ne (tgt := 638) hx hb dL_isSo_600 (by decide) (fun c600 => False.elim (by rw [qeq (a := (ow (nn (B.1 k) 0) (nn (B.1 k) 14) (nn (B.1 k) 8))) (b := gd) (by omega) (by omega)] at c600; omega)) (fun _ => ?_)
                              refine lv_iload hx hb dL_isSo_603 (lv_at hl 0 rfl) ?_
                              refine lv_sipush (v := nI 400) hx hb dL_isSo_605 (by decide) ?_
                              refine lv_icmp_gt (tgt := 638) hx hb dL_isSo_608 (by decide) (fun c608 => False.elim (by rw [qlt (a := 400) (b := (plS (B.1 k))) (by omega) (by omega)] at c608; omega)) (fun _ => ?_)
                              refine lv_iload hx hb dL_isSo_611 (lv_at hl 0 rfl) ?_
                              have jn_621 : ∀ (x1 : Nat) (_ : True), (x1 = if 0 < plS (B.1 k) then 1 else 0) → ∀ (H : Heap) (locs : List Loc) (ls : Array Slot), va_P D vwCl (wB kA B) H → va_D A (wB kA B) → va_S A s.heap H locs → lv_has ls 18 [(14, .int (nI (plS (B.1 k)))), (13, .int (nI (g1 + g2 + g3 + g4 + (16 * (cuS (B.1 k))) + g6))), (12, .int (nI tw)), (11, .int (nI at9)), (10, .int (nI gd)), (9, .int (nI (nsS (B.1 k)))), (4, .int (nI (nn (B.1 k) 2))), (3, .int (nI (nn (B.1 k) 6))), (2, .int (nI (nn (B.1 k) 1))), (0, .ref be), (1, .int (nI k))] → W p l e ({ frames := 4, cells := 0, slots := 0, locals := 90 }) s m args below meth c H locs 0 0 (MQ below (va_Qi (fun r w => w = (wB kA B) ∧ (r = nI 1)) (fB D (tyL kA) A) A) args s 0 0 A) (F0 m 621 ls [.int (nI x1)]) := by
                                clear hP hD hS hl
                                intro x1 _ hx1 H locs ls hP hD hS hl
                                refine lv_iload hx hb dL_isSo_621 (lv_at hl 4 rfl) ?_
                                have jn_631 : ∀ (x2 : Nat) (_ : True), (x2 = if 0 < gd then 1 else 0) → ∀ (H : Heap) (locs : List Loc) (ls : Array Slot), va_P D vwCl (wB kA B) H → va_D A (wB kA B) → va_S A s.heap H locs → lv_has ls 18 [(14, .int (nI (plS (B.1 k)))), (13, .int (nI (g1 + g2 + g3 + g4 + (16 * (cuS (B.1 k))) + g6))), (12, .int (nI tw)), (11, .int (nI at9)), (10, .int (nI gd)), (9, .int (nI (nsS (B.1 k)))), (4, .int (nI (nn (B.1 k) 2))), (3, .int (nI (nn (B.1 k) 6))), (2, .int (nI (nn (B.1 k) 1))), (0, .ref be), (1, .int (nI k))] → W p l e ({ frames := 4, cells := 0, slots := 0, locals := 90 }) s m args below meth c H locs 0 0 (MQ below (va_Qi (fun r w => w = (wB kA B) ∧ (r = nI 1)) (fB D (tyL kA) A) A) args s 0 0 A) (F0 m 631 ls [.int (nI x2), .int (nI x1)]) := by
                                  clear hP hD hS hl
                                  intro x2 _ hx2 H locs ls hP hD hS hl
                                  have hxx : x1 = x2 ∧ x1 ≤ 1 := by exact x12 hplg hx1 (by rw [hx2, hgN])
                                  refine lv_icmp_ne (tgt := 638) hx hb dL_isSo_631 (by decide) (fun c631 => False.elim (by rw [qeq (a := x1) (b := x2) (by omega) (by omega)] at c631; omega)) (fun _ => ?_)
                                  refine lv_iconst (v := nI 1) hx hb dL_isSo_634 (by decide) ?_
                                  refine lv_goto (tgt := 639) hx hb dL_isSo_635 (by decide) ?_
                                  exact endZ hx hb hr hlocks (rfl) hK hP hD hS (⟨rfl, by first | rfl | assumption | omega | (rw [if_pos (by omega)]; first | done | rfl) | (rw [if_neg (by omega)]; first | done | rfl)⟩) (Nat.le_of_ble_eq_true rfl) (Nat.le_of_ble_eq_true rfl) dL_isSo_639
                                refine lv_if_le (tgt := 630) hx hb dL_isSo_623 (by decide) (fun c623 => ?_) (fun c623 => ?_)
                                ·
                                  rw [qnp (a := gd) (by omega)] at c623
                                  refine lv_iconst (v := nI 0) hx hb dL_isSo_630 (by decide) ?_
                                  exact jn_631 0 trivial (by first | rw [if_pos (by omega)] | rw [if_neg (by omega)]) _ _ _ hP hD hS (lv_sub hl [0, 1, 2, 3, 4, 5, 6, 7, 8, 9, 10] rfl)
                                ·
                                  rw [qnp (a := gd) (by omega)] at c623
                                  refine lv_iconst (v := nI 1) hx hb dL_isSo_626 (by decide) ?_
                                  refine lv_goto (tgt := 631) hx hb dL_isSo_627 (by decide) ?_
                                  exact jn_631 1 trivial (by first | rw [if_pos (by omega)] | rw [if_neg (by omega)]) _ _ _ hP hD hS (lv_sub hl [0, 1, 2, 3, 4, 5, 6, 7, 8, 9, 10] rfl)
                              refine lv_if_le (tgt := 620) hx hb dL_isSo_613 (by decide) (fun c613 => ?_) (fun c613 => ?_)
                              ·
                                rw [qnp (a := (plS (B.1 k))) (by omega)] at c613
                                refine lv_iconst (v := nI 0) hx hb dL_isSo_620 (by decide) ?_
                                exact jn_621 0 trivial (by first | rw [if_pos (by omega)] | rw [if_neg (by omega)]) _ _ _ hP hD hS (lv_sub hl [0, 1, 2, 3, 4, 5, 6, 7, 8, 9, 10] rfl)
                              ·
                                rw [qnp (a := (plS (B.1 k))) (by omega)] at c613
                                refine lv_iconst (v := nI 1) hx hb dL_isSo_616 (by decide) ?_
                                refine lv_goto (tgt := 621) hx hb dL_isSo_617 (by decide) ?_
                                exact jn_621 1 trivial (by first | rw [if_pos (by omega)] | rw [if_neg (by omega)]) _ _ _ hP hD hS (lv_sub hl [0, 1, 2, 3, 4, 5, 6, 7, 8, 9, 10] rfl)
                            refine lv_icmp_le (tgt := 539) hx hb dL_isSo_531 (by decide) (fun c531 => ?_) (fun c531 => ?_)
                            ·
                              rw [qle (a := (nn (B.1 k) 6)) (b := 300) (by omega) (by omega)] at c531
                              refine lv_iconst (v := nI 0) hx hb dL_isSo_539 (by decide) ?_
                              exact jn_540 0 trivial (by first | rw [if_pos (by omega)] | rw [if_neg (by omega)]) _ _ _ hP hD hS (lv_sub hl [0, 1, 2, 3, 4, 5, 6, 7, 8, 9] rfl)
                            ·
                              rw [qle (a := (nn (B.1 k) 6)) (b := 300) (by omega) (by omega)] at c531
                              refine lv_bipush (v := nI 32) hx hb dL_isSo_534 (by decide) ?_
                              refine lv_goto (tgt := 540) hx hb dL_isSo_536 (by decide) ?_
                              exact jn_540 32 trivial (by first | rw [if_pos (by omega)] | rw [if_neg (by omega)]) _ _ _ hP hD hS (lv_sub hl [0, 1, 2, 3, 4, 5, 6, 7, 8, 9] rfl)
                          refine lv_if_le (tgt := 514) hx hb dL_isSo_506 (by decide) (fun c506 => ?_) (fun c506 => ?_)
                          ·
                            rw [qnp (a := (stS (B.1 k))) (by omega)] at c506
                            refine lv_iconst (v := nI 0) hx hb dL_isSo_514 (by decide) ?_
                            exact jn_515 0 trivial (by first | rw [if_pos (by omega)] | rw [if_neg (by omega)]) _ _ _ hP hD hS (lv_sub hl [0, 1, 2, 3, 4, 5, 6, 7, 8, 9] rfl)
                          ·
                            rw [qnp (a := (stS (B.1 k))) (by omega)] at c506
                            refine lv_bipush (v := nI 8) hx hb dL_isSo_509 (by decide) ?_
                            refine lv_goto (tgt := 515) hx hb dL_isSo_511 (by decide) ?_
                            exact jn_515 8 trivial (by first | rw [if_pos (by omega)] | rw [if_neg (by omega)]) _ _ _ hP hD hS (lv_sub hl [0, 1, 2, 3, 4, 5, 6, 7, 8, 9] rfl)
                        refine lv_if_le (tgt := 497) hx hb dL_isSo_490 (by decide) (fun c490 => ?_) (fun c490 => ?_)
                        ·
                          rw [qnp (a := (nn (B.1 k) 2)) (by omega)] at c490
                          refine lv_iconst (v := nI 0) hx hb dL_isSo_497 (by decide) ?_
                          exact jn_498 0 trivial (by first | rw [if_pos (by omega)] | rw [if_neg (by omega)]) _ _ _ hP hD hS (lv_sub hl [0, 1, 2, 3, 4, 5, 6, 7, 8, 9] rfl)
                        ·
                          rw [qnp (a := (nn (B.1 k) 2)) (by omega)] at c490
                          refine lv_iconst (v := nI 4) hx hb dL_isSo_493 (by decide) ?_
                          refine lv_goto (tgt := 498) hx hb dL_isSo_494 (by decide) ?_
                          exact jn_498 4 trivial (by first | rw [if_pos (by omega)] | rw [if_neg (by omega)]) _ _ _ hP hD hS (lv_sub hl [0, 1, 2, 3, 4, 5, 6, 7, 8, 9] rfl)
                      refine lv_if_eq (tgt := 486) hx hb dL_isSo_479 (by decide) (fun c479 => ?_) (fun c479 => ?_)
                      ·
                        rw [qz (a := tw) (by omega)] at c479
                        refine lv_iconst (v := nI 0) hx hb dL_isSo_486 (by decide) ?_
                        exact jn_487 0 trivial (by first | rw [if_pos (by omega)] | rw [if_neg (by omega)]) _ _ _ hP hD hS (lv_sub hl [0, 1, 2, 3, 4, 5, 6, 7, 8, 9] rfl)
                      ·
                        rw [qz (a := tw) (by omega)] at c479
                        refine lv_iconst (v := nI 2) hx hb dL_isSo_482 (by decide) ?_
                        refine lv_goto (tgt := 487) hx hb dL_isSo_483 (by decide) ?_
                        exact jn_487 2 trivial (by first | rw [if_pos (by omega)] | rw [if_neg (by omega)]) _ _ _ hP hD hS (lv_sub hl [0, 1, 2, 3, 4, 5, 6, 7, 8, 9] rfl)
                    refine lv_icmp_le (tgt := 476) hx hb dL_isSo_469 (by decide) (fun c469 => ?_) (fun c469 => ?_)
                    ·
                      rw [qle (a := (nsS (B.1 k))) (b := gd) (by omega) (by omega)] at c469
                      refine lv_iconst (v := nI 0) hx hb dL_isSo_476 (by decide) ?_
                      exact jn_477 0 trivial (by first | rw [if_pos (by omega)] | rw [if_neg (by omega)]) _ _ _ hP hD hS (lv_sub hl [0, 1, 2, 3, 4, 5, 6, 7, 8, 9] rfl)
                    ·
                      rw [qle (a := (nsS (B.1 k))) (b := gd) (by omega) (by omega)] at c469
                      refine lv_iconst (v := nI 1) hx hb dL_isSo_472 (by decide) ?_
                      refine lv_goto (tgt := 477) hx hb dL_isSo_473 (by decide) ?_
                      exact jn_477 1 trivial (by first | rw [if_pos (by omega)] | rw [if_neg (by omega)]) _ _ _ hP hD hS (lv_sub hl [0, 1, 2, 3, 4, 5, 6, 7, 8, 9] rfl)
                  ·
                    rw [qle (a := (nsS (B.1 k))) (b := i) (by omega) (by omega)] at c244
                    obtain ⟨q9, u9, hq1, hq2, hq3, hq4, hq5, hq6, hq7, hq8, hq9, hq10, ⟨b9, hb9, hq11⟩, hq12, hq13⟩ := hsO i (by omega)
                    rw [hcxB] at hq6
                    refine lv_aload_n hx hb dL_isSo_247 rfl (lv_at hl 8 rfl) ?_
                    refine lv_iload_n hx hb dL_isSo_248 rfl (lv_at hl 9 rfl) ?_
                    refine lv_iload hx hb dL_isSo_249 (lv_at hl 0 rfl) ?_
                    refine lv_iconst (v := nI 0) hx hb dL_isSo_251 (by decide) ?_
                    have hF := chF [] hD hS hA
                    refine va_calli (va_runV (As := [.int (nI k), .int (nI i), .int (nI 0)]) (rest := []) ⟨hx, hb, hml, hown, hts⟩ (c_X6_ofSector_B l D kA z B be k i 0 (by first | assumption | omega) (by first | assumption | omega) (by first | assumption | omega) (by first | assumption | omega) (by first | assumption | omega) _) (cwV 3 hts h_L_isSo_14 rfl rfl rfl (by decide +kernel) ⟨Nat.le_of_ble_eq_true rfl, Nat.le_of_ble_eq_true rfl⟩) (fPvB [] (hbe) hK hP hD hS hG hF) rfl rfl hl.1 rfl (lv_room (Nat.le_of_ble_eq_true rfl)) dL_isSo_252 ⟨Nat.le_of_ble_eq_true rfl, Nat.le_of_ble_eq_true rfl⟩) hS (fun q _ h => hF q h) hF (fun r_57 w1 t H locs ht hvm hw hB hz1 hk1 hS => ?_)
                    obtain ⟨hP, hD⟩ := chJ [] hP hD hk1 hF ht hB
                    try dsimp only at hw
                    obtain ⟨rfl, e_57⟩ := hw
                    have hP : va_P D vwCl (wB kA B) H := hP
                    have hD : va_D A (wB kA B) := hD
                    refine W.eq (g2 := F0 m 255 ls [.int (nI q9)]) (by rw [show r_57 = nI q9 from (e_57).trans hq1]) ?_
                    refine lv_istore (lv' := [(14, .int (nI q9)), (13, .int (nI i)), (12, .int (nI tw)), (11, .int (nI at9)), (10, .int (nI gd)), (9, .int (nI (nsS (B.1 k)))), (4, .int (nI (nn (B.1 k) 2))), (3, .int (nI (nn (B.1 k) 6))), (2, .int (nI (nn (B.1 k) 1))), (0, .ref be), (1, .int (nI k))]) hx hb dL_isSo_255 hl (by decide) rfl (fun ls hl => ?_)
                    refine lv_aload_n hx hb dL_isSo_257 rfl (lv_at hl 9 rfl) ?_
                    refine lv_iload_n hx hb dL_isSo_258 rfl (lv_at hl 10 rfl) ?_
                    refine lv_iload hx hb dL_isSo_259 (lv_at hl 1 rfl) ?_
                    refine lv_iconst (v := nI 2) hx hb dL_isSo_261 (by decide) ?_
                    have hF := chF [] hD hS hA
                    refine va_calli (va_runV (As := [.int (nI k), .int (nI i), .int (nI 2)]) (rest := []) ⟨hx, hb, hml, hown, hts⟩ (c_X6_ofSector_B l D kA z B be k i 2 (by first | assumption | omega) (by first | assumption | omega) (by first | assumption | omega) (by first | assumption | omega) (by first | assumption | omega) _) (cwV 3 hts h_L_isSo_14 rfl rfl rfl (by decide +kernel) ⟨Nat.le_of_ble_eq_true rfl, Nat.le_of_ble_eq_true rfl⟩) (fPvB [] (hbe) hK hP hD hS hG hF) rfl rfl hl.1 rfl (lv_room (Nat.le_of_ble_eq_true rfl)) dL_isSo_262 ⟨Nat.le_of_ble_eq_true rfl, Nat.le_of_ble_eq_true rfl⟩) hS (fun q _ h => hF q h) hF (fun r_58 w1 t H locs ht hvm hw hB hz1 hk1 hS => ?_)
                    obtain ⟨hP, hD⟩ := chJ [] hP hD hk1 hF ht hB
                    try dsimp only at hw
                    obtain ⟨rfl, e_58⟩ := hw
                    have hP : va_P D vwCl (wB kA B) H := hP
                    have hD : va_D A (wB kA B) := hD
                    refine W.eq (g2 := F0 m 265 ls [.int (nI u9)]) (by rw [show r_58 = nI u9 from (e_58).trans hq2]) ?_
                    refine lv_istore (lv' := [(15, .int (nI u9)), (14, .int (nI q9)), (13, .int (nI i)), (12, .int (nI tw)), (11, .int (nI at9)), (10, .int (nI gd)), (9, .int (nI (nsS (B.1 k)))), (4, .int (nI (nn (B.1 k) 2))), (3, .int (nI (nn (B.1 k) 6))), (2, .int (nI (nn (B.1 k) 1))), (0, .ref be), (1, .int (nI k))]) hx hb dL_isSo_265 hl (by decide) rfl (fun ls hl => ?_)
                    refine lv_iload hx hb dL_isSo_267 (lv_at hl 1 rfl) ?_
                    refine lv_bipush (v := nI 10) hx hb dL_isSo_269 (by decide) ?_
                    refine lv_iadd hx hb dL_isSo_271 ?_
                    rw [nI_add q9 10]
                    refine lv_iconst (v := nI 3) hx hb dL_isSo_272 (by decide) ?_
                    refine lv_iload hx hb dL_isSo_273 (lv_at hl 0 rfl) ?_
                    refine lv_iadd hx hb dL_isSo_275 ?_
                    rw [nI_add 3 u9]
                    refine lv_aload_n hx hb dL_isSo_276 rfl (lv_at hl 10 rfl) ?_
                    refine lv_iload_n hx hb dL_isSo_277 rfl (lv_at hl 11 rfl) ?_
                    refine lv_iconst (v := nI 0) hx hb dL_isSo_278 (by decide) ?_
                    have hF := chF [] hD hS hA
                    refine va_calli (va_runV (As := [.int (nI k), .int (nI 0)]) (rest := [.int (nI (3 + u9)), .int (nI (q9 + 10))]) ⟨hx, hb, hml, hown, hts⟩ (c_X6_ofTrack_B0 l D kA z B be k (by first | assumption | omega) (by first | assumption | omega) (by first | assumption | omega) _) (cwV 2 hts h_L_isSo_12 rfl rfl rfl (by decide +kernel) ⟨Nat.le_of_ble_eq_true rfl, Nat.le_of_ble_eq_true rfl⟩) (fPvB [] (hbe) hK hP hD hS hG hF) rfl rfl hl.1 rfl (lv_room (Nat.le_of_ble_eq_true rfl)) dL_isSo_279 ⟨Nat.le_of_ble_eq_true rfl, Nat.le_of_ble_eq_true rfl⟩) hS (fun q _ h => hF q h) hF (fun r_59 w1 t H locs ht hvm hw hB hz1 hk1 hS => ?_)
                    obtain ⟨hP, hD⟩ := chJ [] hP hD hk1 hF ht hB
                    try dsimp only at hw
                    obtain ⟨rfl, e_59⟩ := hw
                    replace e_59 := e_59.symm
                    subst e_59
                    have hP : va_P D vwCl (wB kA B) H := hP
                    have hD : va_D A (wB kA B) := hD
                    refine lv_iconst (v := nI 2) hx hb dL_isSo_282 (by decide) ?_
                    have jn_293 : ∀ (cb : Nat) (_ : True), (cb = cB (nn (B.1 k) 0)) → ∀ (H : Heap) (locs : List Loc) (ls : Array Slot), va_P D vwCl (wB kA B) H → va_D A (wB kA B) → va_S A s.heap H locs → lv_has ls 18 [(15, .int (nI u9)), (14, .int (nI q9)), (13, .int (nI i)), (12, .int (nI tw)), (11, .int (nI at9)), (10, .int (nI gd)), (9, .int (nI (nsS (B.1 k)))), (4, .int (nI (nn (B.1 k) 2))), (3, .int (nI (nn (B.1 k) 6))), (2, .int (nI (nn (B.1 k) 1))), (0, .ref be), (1, .int (nI k))] → W p l e ({ frames := 4, cells := 0, slots := 0, locals := 90 }) s m args below meth c H locs 0 0 (MQ below (va_Qi (fun r w => w = (wB kA B) ∧ (r = nI 1)) (fB D (tyL kA) A) A) args s 0 0 A) (F0 m 293 ls [.int (nI cb), .int (nI (3 + u9)), .int (nI (q9 + 10))]) := by
                      clear hP hD hS hl
                      intro cb _ hcb H locs ls hP hD hS hl
                      have hce : E (i + 1) = q9 + 10 + (3 + u9) * cb := by rw [hq6, Nat.add_comm 3 u9, hcb]
                      refine lv_imul hx hb dL_isSo_293 ?_
                      rw [pk_mul (3 + u9) cb]
                      refine lv_iadd hx hb dL_isSo_294 ?_
                      rw [nI_add (q9 + 10) ((3 + u9) * cb)]
                      refine lv_istore (lv' := [(16, .int (nI (q9 + 10 + ((3 + u9) * cb)))), (15, .int (nI u9)), (14, .int (nI q9)), (13, .int (nI i)), (12, .int (nI tw)), (11, .int (nI at9)), (10, .int (nI gd)), (9, .int (nI (nsS (B.1 k)))), (4, .int (nI (nn (B.1 k) 2))), (3, .int (nI (nn (B.1 k) 6))), (2, .int (nI (nn (B.1 k) 1))), (0, .ref be), (1, .int (nI k))]) hx hb dL_isSo_295 hl (by decide) rfl (fun ls hl => ?_)
                      refine lv_iload hx hb dL_isSo_297 (lv_at hl 2 rfl) ?_
                      refine lv_iload hx hb dL_isSo_299 (lv_at hl 5 rfl) ?_
                      refine lv_icmp_lt (tgt := 395) hx hb dL_isSo_301 (by decide) (fun c301 => False.elim (by rw [qlt (a := q9) (b := at9) (by omega) (by omega)] at c301; omega)) (fun _ => ?_)
                      refine lv_iload hx hb dL_isSo_304 (lv_at hl 1 rfl) ?_
                      refine lv_iconst (v := nI 1) hx hb dL_isSo_306 (by decide) ?_
                      refine lv_icmp_lt (tgt := 395) hx hb dL_isSo_307 (by decide) (fun c307 => False.elim (by rw [qlt (a := u9) (b := 1) (by omega) (by omega)] at c307; omega)) (fun _ => ?_)
                      refine lv_iload hx hb dL_isSo_310 (lv_at hl 1 rfl) ?_
                      refine lv_iconst (v := nI 4) hx hb dL_isSo_312 (by decide) ?_
                      refine lv_icmp_gt (tgt := 395) hx hb dL_isSo_313 (by decide) (fun c313 => False.elim (by rw [qlt (a := 4) (b := u9) (by omega) (by omega)] at c313; omega)) (fun _ => ?_)
                      refine lv_iload hx hb dL_isSo_316 (lv_at hl 0 rfl) ?_
                      refine lv_iload_n hx hb dL_isSo_318 rfl (lv_at hl 9 rfl) ?_
                      refine lv_icmp_gt (tgt := 395) hx hb dL_isSo_319 (by decide) (fun c319 => False.elim (by rw [qlt (a := (nn (B.1 k) 6)) (b := (q9 + 10 + ((3 + u9) * cb))) (by omega) (by omega)] at c319; omega)) (fun _ => ?_)
                      refine lv_aload_n hx hb dL_isSo_322 rfl (lv_at hl 11 rfl) ?_
                      refine lv_iload_n hx hb dL_isSo_323 rfl (lv_at hl 12 rfl) ?_
                      refine lv_iload hx hb dL_isSo_324 (lv_at hl 2 rfl) ?_
                      have hF := chF [] hD hS hA
                      refine va_calli (va_runV (As := [.int (nI k), .int (nI q9)]) (rest := []) ⟨hx, hb, hml, hown, hts⟩ (c_X6_vote_B l D kA z B be k q9 (by first | assumption | omega) (by first | assumption | omega) (by first | assumption | omega) (by first | assumption | omega) _) (cwV 2 hts h_L_isSo_15 rfl rfl rfl (by decide +kernel) ⟨Nat.le_of_ble_eq_true rfl, Nat.le_of_ble_eq_true rfl⟩) (fPvB [] (hbe) hK hP hD hS hG hF) rfl rfl hl.1 rfl (lv_room (Nat.le_of_ble_eq_true rfl)) dL_isSo_326 ⟨Nat.le_of_ble_eq_true rfl, Nat.le_of_ble_eq_true rfl⟩) hS (fun q _ h => hF q h) hF (fun r_60 w1 t H locs ht hvm hw hB hz1 hk1 hS => ?_)
                      obtain ⟨hP, hD⟩ := chJ [] hP hD hk1 hF ht hB
                      try dsimp only at hw
                      obtain ⟨rfl, e_60⟩ := hw
                      have hP : va_P D vwCl (wB kA B) H := hP
                      have hD : va_D A (wB kA B) := hD
                      have hv1 := e_60
                      refine lv_iconst (v := nI 1) hx hb dL_isSo_329 (by decide) ?_
                      refine lv_icmp_ne (tgt := 395) hx hb dL_isSo_330 (by decide) (fun c330 => absurd (hv1.trans hq8) c330) (fun _ => ?_)
                      refine lv_aload_n hx hb dL_isSo_333 rfl (lv_at hl 11 rfl) ?_
                      refine lv_iload_n hx hb dL_isSo_334 rfl (lv_at hl 12 rfl) ?_
                      refine lv_iload hx hb dL_isSo_335 (lv_at hl 2 rfl) ?_
                      refine lv_iconst (v := nI 4) hx hb dL_isSo_337 (by decide) ?_
                      refine lv_iadd hx hb dL_isSo_338 ?_
                      rw [nI_add q9 4]
                      have hF := chF [] hD hS hA
                      refine va_calli (va_runV (As := [.int (nI k), .int (nI (q9 + 4))]) (rest := []) ⟨hx, hb, hml, hown, hts⟩ (c_X6_vote_B l D kA z B be k (q9 + 4) (by first | assumption | omega) (by first | assumption | omega) (by first | assumption | omega) (by first | assumption | omega) _) (cwV 2 hts h_L_isSo_15 rfl rfl rfl (by decide +kernel) ⟨Nat.le_of_ble_eq_true rfl, Nat.le_of_ble_eq_true rfl⟩) (fPvB [] (hbe) hK hP hD hS hG hF) rfl rfl hl.1 rfl (lv_room (Nat.le_of_ble_eq_true rfl)) dL_isSo_339 ⟨Nat.le_of_ble_eq_true rfl, Nat.le_of_ble_eq_true rfl⟩) hS (fun q _ h => hF q h) hF (fun r_61 w1 t H locs ht hvm hw hB hz1 hk1 hS => ?_)
                      obtain ⟨hP, hD⟩ := chJ [] hP hD hk1 hF ht hB
                      try dsimp only at hw
                      obtain ⟨rfl, e_61⟩ := hw
                      have hP : va_P D vwCl (wB kA B) H := hP
                      have hD : va_D A (wB kA B) := hD
                      have hv2 := e_61
                      refine lv_if_ne (tgt := 395) hx hb dL_isSo_342 (by decide) (fun c342 => absurd (hv2.trans hq9) c342) (fun _ => ?_)
                      refine lv_aload_n hx hb dL_isSo_345 rfl (lv_at hl 11 rfl) ?_
                      refine lv_iload_n hx hb dL_isSo_346 rfl (lv_at hl 12 rfl) ?_
                      refine lv_iload hx hb dL_isSo_347 (lv_at hl 2 rfl) ?_
                      refine lv_bipush (v := nI 9) hx hb dL_isSo_349 (by decide) ?_
                      refine lv_iadd hx hb dL_isSo_351 ?_
                      rw [nI_add q9 9]
                      have hF := chF [] hD hS hA
                      refine va_calli (va_runV (As := [.int (nI k), .int (nI (q9 + 9))]) (rest := []) ⟨hx, hb, hml, hown, hts⟩ (c_X6_vote_B l D kA z B be k (q9 + 9) (by first | assumption | omega) (by first | assumption | omega) (by first | assumption | omega) (by first | assumption | omega) _) (cwV 2 hts h_L_isSo_15 rfl rfl rfl (by decide +kernel) ⟨Nat.le_of_ble_eq_true rfl, Nat.le_of_ble_eq_true rfl⟩) (fPvB [] (hbe) hK hP hD hS hG hF) rfl rfl hl.1 rfl (lv_room (Nat.le_of_ble_eq_true rfl)) dL_isSo_352 ⟨Nat.le_of_ble_eq_true rfl, Nat.le_of_ble_eq_true rfl⟩) hS (fun q _ h => hF q h) hF (fun r_62 w1 t H locs ht hvm hw hB hz1 hk1 hS => ?_)
                      obtain ⟨hP, hD⟩ := chJ [] hP hD hk1 hF ht hB
                      try dsimp only at hw
                      obtain ⟨rfl, e_62⟩ := hw
                      have hP : va_P D vwCl (wB kA B) H := hP
                      have hD : va_D A (wB kA B) := hD
                      have hv3 := e_62
                      refine lv_iconst (v := nI 1) hx hb dL_isSo_355 (by decide) ?_
                      refine lv_icmp_ne (tgt := 395) hx hb dL_isSo_356 (by decide) (fun c356 => absurd (hv3.trans hq10) c356) (fun _ => ?_)
                      refine lv_aload_n hx hb dL_isSo_359 rfl (lv_at hl 11 rfl) ?_
                      refine lv_iload_n hx hb dL_isSo_360 rfl (lv_at hl 12 rfl) ?_
                      refine lv_iload hx hb dL_isSo_361 (lv_at hl 3 rfl) ?_
                      refine lv_iconst (v := nI 4) hx hb dL_isSo_363 (by decide) ?_
                      refine lv_iload hx hb dL_isSo_364 (lv_at hl 1 rfl) ?_
                      refine lv_iadd hx hb dL_isSo_366 ?_
                      rw [nI_add 4 u9]
                      have hF := chF [] hD hS hA
                      refine va_calli (va_runV (As := [.int (nI k), .int (nI i), .int (nI (4 + u9))]) (rest := []) ⟨hx, hb, hml, hown, hts⟩ (c_X6_ofSector_B l D kA z B be k i (4 + u9) (by first | assumption | omega) (by first | assumption | omega) (by first | assumption | omega) (by first | assumption | omega) (by first | assumption | omega) _) (cwV 3 hts h_L_isSo_14 rfl rfl rfl (by decide +kernel) ⟨Nat.le_of_ble_eq_true rfl, Nat.le_of_ble_eq_true rfl⟩) (fPvB [] (hbe) hK hP hD hS hG hF) rfl rfl hl.1 rfl (lv_room (Nat.le_of_ble_eq_true rfl)) dL_isSo_367 ⟨Nat.le_of_ble_eq_true rfl, Nat.le_of_ble_eq_true rfl⟩) hS (fun q _ h => hF q h) hF (fun r_63 w1 t H locs ht hvm hw hB hz1 hk1 hS => ?_)
                      obtain ⟨hP, hD⟩ := chJ [] hP hD hk1 hF ht hB
                      try dsimp only at hw
                      obtain ⟨rfl, e_63⟩ := hw
                      have hP : va_P D vwCl (wB kA B) H := hP
                      have hD : va_D A (wB kA B) := hD
                      have hv4 := e_63
                      refine lv_iconst (v := -1) hx hb dL_isSo_370 (by decide) ?_
                      refine lv_icmp_lt (tgt := 395) hx hb dL_isSo_371 (by decide) (fun c371 => absurd c371 (by rw [hv4, show oSe (B.1 k) i (4 + u9) = (vS (B.1 k)) (i * 9 + 5 + (u9 - 1)) from congrArg (vS (B.1 k)) (show i * 9 + (4 + u9) = i * 9 + 5 + (u9 - 1) by omega)]; exact bQ_ge (hq12 (u9 - 1) (by omega)))) (fun _ => ?_)
                      refine lv_iload hx hb dL_isSo_374 (lv_at hl 1 rfl) ?_
                      have jn_397 : ∀  (_ : True), ∀ (H : Heap) (locs : List Loc) (ls : Array Slot), va_P D vwCl (wB kA B) H → va_D A (wB kA B) → va_S A s.heap H locs → lv_has ls 18 [(16, .int (nI (q9 + 10 + ((3 + u9) * cb)))), (15, .int (nI u9)), (14, .int (nI q9)), (13, .int (nI i)), (12, .int (nI tw)), (11, .int (nI at9)), (10, .int (nI gd)), (9, .int (nI (nsS (B.1 k)))), (4, .int (nI (nn (B.1 k) 2))), (3, .int (nI (nn (B.1 k) 6))), (2, .int (nI (nn (B.1 k) 1))), (0, .ref be), (1, .int (nI k))] → W p l e ({ frames := 4, cells := 0, slots := 0, locals := 90 }) s m args below meth c H locs 0 0 (MQ below (va_Qi (fun r w => w = (wB kA B) ∧ (r = nI 1)) (fB D (tyL kA) A) A) args s 0 0 A) (F0 m 397 ls []) := by
                        clear hP hD hS hl
                        intro  _  H locs ls hP hD hS hl
                        refine lv_iload hx hb dL_isSo_397 (lv_at hl 0 rfl) ?_
                        refine lv_istore (lv' := [(11, .int (nI (q9 + 10 + ((3 + u9) * cb)))), (16, .int (nI (q9 + 10 + ((3 + u9) * cb)))), (15, .int (nI u9)), (14, .int (nI q9)), (13, .int (nI i)), (12, .int (nI tw)), (10, .int (nI gd)), (9, .int (nI (nsS (B.1 k)))), (4, .int (nI (nn (B.1 k) 2))), (3, .int (nI (nn (B.1 k) 6))), (2, .int (nI (nn (B.1 k) 1))), (0, .ref be), (1, .int (nI k))]) hx hb dL_isSo_399 hl (by decide) rfl (fun ls hl => ?_)
                        refine lv_iload hx hb dL_isSo_401 (lv_at hl 6 rfl) ?_
                        refine lv_aload_n hx hb dL_isSo_403 rfl (lv_at hl 11 rfl) ?_
                        refine lv_iload_n hx hb dL_isSo_404 rfl (lv_at hl 12 rfl) ?_
                        refine lv_iload hx hb dL_isSo_405 (lv_at hl 4 rfl) ?_
                        refine lv_iconst (v := nI 3) hx hb dL_isSo_407 (by decide) ?_
                        have hF := chF [] hD hS hA
                        refine va_calli (va_runV (As := [.int (nI k), .int (nI i), .int (nI 3)]) (rest := [.int (nI gd)]) ⟨hx, hb, hml, hown, hts⟩ (c_X6_ofSector_B l D kA z B be k i 3 (by first | assumption | omega) (by first | assumption | omega) (by first | assumption | omega) (by first | assumption | omega) (by first | assumption | omega) _) (cwV 3 hts h_L_isSo_14 rfl rfl rfl (by decide +kernel) ⟨Nat.le_of_ble_eq_true rfl, Nat.le_of_ble_eq_true rfl⟩) (fPvB [] (hbe) hK hP hD hS hG hF) rfl rfl hl.1 rfl (lv_room (Nat.le_of_ble_eq_true rfl)) dL_isSo_408 ⟨Nat.le_of_ble_eq_true rfl, Nat.le_of_ble_eq_true rfl⟩) hS (fun q _ h => hF q h) hF (fun r_64 w1 t H locs ht hvm hw hB hz1 hk1 hS => ?_)
                        obtain ⟨hP, hD⟩ := chJ [] hP hD hk1 hF ht hB
                        try dsimp only at hw
                        obtain ⟨rfl, e_64⟩ := hw
                        have hP : va_P D vwCl (wB kA B) H := hP
                        have hD : va_D A (wB kA B) := hD
                        refine W.eq (g2 := F0 m 411 ls [.int (nI b9), .int (nI gd)]) (by rw [show r_64 = nI b9 from (e_64).trans hq11]) ?_
                        refine lv_iadd hx hb dL_isSo_411 ?_
                        rw [nI_add gd b9]
                        refine lv_istore (lv' := [(10, .int (nI (gd + b9))), (11, .int (nI (q9 + 10 + ((3 + u9) * cb)))), (16, .int (nI (q9 + 10 + ((3 + u9) * cb)))), (15, .int (nI u9)), (14, .int (nI q9)), (13, .int (nI i)), (12, .int (nI tw)), (9, .int (nI (nsS (B.1 k)))), (4, .int (nI (nn (B.1 k) 2))), (3, .int (nI (nn (B.1 k) 6))), (2, .int (nI (nn (B.1 k) 1))), (0, .ref be), (1, .int (nI k))]) hx hb dL_isSo_412 hl (by decide) rfl (fun ls hl => ?_)
                        refine lv_iconst (v := nI 0) hx hb dL_isSo_414 (by decide) ?_
                        refine lv_istore (lv' := [(17, .int (nI 0)), (10, .int (nI (gd + b9))), (11, .int (nI (q9 + 10 + ((3 + u9) * cb)))), (16, .int (nI (q9 + 10 + ((3 + u9) * cb)))), (15, .int (nI u9)), (14, .int (nI q9)), (13, .int (nI i)), (12, .int (nI tw)), (9, .int (nI (nsS (B.1 k)))), (4, .int (nI (nn (B.1 k) 2))), (3, .int (nI (nn (B.1 k) 6))), (2, .int (nI (nn (B.1 k) 1))), (0, .ref be), (1, .int (nI k))]) hx hb dL_isSo_415 hl (by decide) rfl (fun ls hl => ?_)
                        have lp_417 : ∀ (n_417 : Nat) (j : Nat) (tv : Nat), i - j < n_417 → (j ≤ i) → (tv ≤ 1) → (tv = 1 ↔ isTw (vS (B.1 k)) i ∨ ∃ x, x < j ∧ (vS (B.1 k)) (x * 9 + 1) = (vS (B.1 k)) (i * 9 + 1)) → ∀ (H : Heap) (locs : List Loc) (ls : Array Slot), va_P D vwCl (wB kA B) H → va_D A (wB kA B) → va_S A s.heap H locs → lv_has ls 18 [(17, .int (nI j)), (12, .int (nI tv)), (10, .int (nI (gd + b9))), (11, .int (nI (q9 + 10 + ((3 + u9) * cb)))), (16, .int (nI (q9 + 10 + ((3 + u9) * cb)))), (15, .int (nI u9)), (14, .int (nI q9)), (13, .int (nI i)), (9, .int (nI (nsS (B.1 k)))), (4, .int (nI (nn (B.1 k) 2))), (3, .int (nI (nn (B.1 k) 6))), (2, .int (nI (nn (B.1 k) 1))), (0, .ref be), (1, .int (nI k))] → W p l e ({ frames := 4, cells := 0, slots := 0, locals := 90 }) s m args below meth c H locs 0 0 (MQ below (va_Qi (fun r w => w = (wB kA B) ∧ (r = nI 1)) (fB D (tyL kA) A) A) args s 0 0 A) (F0 m 417 ls []) := by
                          clear hP hD hS hl
                          intro n_417
                          induction n_417 with
                          | zero =>
                            intro j tv hm_417 hj1 htv1 htv2
                            exact absurd hm_417 (by omega)
                          | succ n_417 ih_417 =>
                            intro j tv hm_417 hj1 htv1 htv2 H locs ls hP hD hS hl
                            refine lv_iload hx hb dL_isSo_417 (lv_at hl 0 rfl) ?_
                            refine lv_iload hx hb dL_isSo_419 (lv_at hl 7 rfl) ?_
                            refine lv_icmp_ge (tgt := 459) hx hb dL_isSo_421 (by decide) (fun c421 => ?_) (fun c421 => ?_)
                            ·
                              rw [qle (a := i) (b := j) (by omega) (by omega)] at c421
                              refine lv_iinc (v := nI (i + 1)) (lv' := [(13, .int (nI (i + 1))), (17, .int (nI j)), (12, .int (nI tv)), (10, .int (nI (gd + b9))), (11, .int (nI (q9 + 10 + ((3 + u9) * cb)))), (16, .int (nI (q9 + 10 + ((3 + u9) * cb)))), (15, .int (nI u9)), (14, .int (nI q9)), (9, .int (nI (nsS (B.1 k)))), (4, .int (nI (nn (B.1 k) 2))), (3, .int (nI (nn (B.1 k) 6))), (2, .int (nI (nn (B.1 k) 1))), (0, .ref be), (1, .int (nI k))]) hx hb dL_isSo_459 hl (k := 7) rfl (nI_add i 1) (by decide) rfl (fun ls hl => ?_)
                              refine lv_goto (tgt := 240) hx hb dL_isSo_462 (by decide) ?_
                              exact ih_240 (i + 1) (gd + b9) (q9 + 10 + ((3 + u9) * cb)) tv (by omega) (by first | assumption | omega | rfl) (by rw [hgd]; show _ = cntG _ i + _; rw [show (vS (B.1 k)) (i * 9 + 3) = nI b9 from hq11]; rcases (show b9 = 0 ∨ b9 = 1 by omega) with rfl | rfl <;> rfl) hce.symm (by first | assumption | omega | rfl) (by rw [htv2, isTw_s, show j = i from by omega]) _ _ _ hP hD hS (lv_sub hl [0, 2, 4, 3, 8, 9, 10, 11, 12, 13] rfl)
                            ·
                              rw [qle (a := i) (b := j) (by omega) (by omega)] at c421
                              refine lv_iload hx hb dL_isSo_424 (lv_at hl 1 rfl) ?_
                              refine lv_aload_n hx hb dL_isSo_426 rfl (lv_at hl 12 rfl) ?_
                              refine lv_iload_n hx hb dL_isSo_427 rfl (lv_at hl 13 rfl) ?_
                              refine lv_iload hx hb dL_isSo_428 (lv_at hl 0 rfl) ?_
                              refine lv_iconst (v := nI 1) hx hb dL_isSo_430 (by decide) ?_
                              have hF := chF [] hD hS hA
                              refine va_calli (va_runV (As := [.int (nI k), .int (nI j), .int (nI 1)]) (rest := [.int (nI tv)]) ⟨hx, hb, hml, hown, hts⟩ (c_X6_ofSector_B l D kA z B be k j 1 (by first | assumption | omega) (by first | assumption | omega) (by first | assumption | omega) (by first | assumption | omega) (by first | assumption | omega) _) (cwV 3 hts h_L_isSo_14 rfl rfl rfl (by decide +kernel) ⟨Nat.le_of_ble_eq_true rfl, Nat.le_of_ble_eq_true rfl⟩) (fPvB [] (hbe) hK hP hD hS hG hF) rfl rfl hl.1 rfl (lv_room (Nat.le_of_ble_eq_true rfl)) dL_isSo_431 ⟨Nat.le_of_ble_eq_true rfl, Nat.le_of_ble_eq_true rfl⟩) hS (fun q _ h => hF q h) hF (fun r_65 w1 t H locs ht hvm hw hB hz1 hk1 hS => ?_)
                              obtain ⟨hP, hD⟩ := chJ [] hP hD hk1 hF ht hB
                              try dsimp only at hw
                              obtain ⟨rfl, e_65⟩ := hw
                              have hP : va_P D vwCl (wB kA B) H := hP
                              have hD : va_D A (wB kA B) := hD
                              have hw9 := e_65
                              refine lv_aload_n hx hb dL_isSo_434 rfl (lv_at hl 12 rfl) ?_
                              refine lv_iload_n hx hb dL_isSo_435 rfl (lv_at hl 13 rfl) ?_
                              refine lv_iload hx hb dL_isSo_436 (lv_at hl 7 rfl) ?_
                              refine lv_iconst (v := nI 1) hx hb dL_isSo_438 (by decide) ?_
                              have hF := chF [] hD hS hA
                              refine va_calli (va_runV (As := [.int (nI k), .int (nI i), .int (nI 1)]) (rest := [.int r_65, .int (nI tv)]) ⟨hx, hb, hml, hown, hts⟩ (c_X6_ofSector_B l D kA z B be k i 1 (by first | assumption | omega) (by first | assumption | omega) (by first | assumption | omega) (by first | assumption | omega) (by first | assumption | omega) _) (cwV 3 hts h_L_isSo_14 rfl rfl rfl (by decide +kernel) ⟨Nat.le_of_ble_eq_true rfl, Nat.le_of_ble_eq_true rfl⟩) (fPvB [] (hbe) hK hP hD hS hG hF) rfl rfl hl.1 rfl (lv_room (Nat.le_of_ble_eq_true rfl)) dL_isSo_439 ⟨Nat.le_of_ble_eq_true rfl, Nat.le_of_ble_eq_true rfl⟩) hS (fun q _ h => hF q h) hF (fun r_66 w1 t H locs ht hvm hw hB hz1 hk1 hS => ?_)
                              obtain ⟨hP, hD⟩ := chJ [] hP hD hk1 hF ht hB
                              try dsimp only at hw
                              obtain ⟨rfl, e_66⟩ := hw
                              have hP : va_P D vwCl (wB kA B) H := hP
                              have hD : va_D A (wB kA B) := hD
                              have hw8 := e_66
                              refine lv_icmp_ne (tgt := 449) hx hb dL_isSo_442 (by decide) (fun c442 => ?_) (fun c442 => ?_)
                              ·
                                refine lv_iconst (v := nI 0) hx hb dL_isSo_449 (by decide) ?_
                                refine lv_ior hx hb dL_isSo_450 ?_
                                refine W.eq (g2 := F0 m 451 ls [.int (nI (max tv 0))]) (by rw [or01 htv1 (by decide)]) ?_
                                refine lv_istore (lv' := [(12, .int (nI (max tv 0))), (17, .int (nI j)), (10, .int (nI (gd + b9))), (11, .int (nI (q9 + 10 + ((3 + u9) * cb)))), (16, .int (nI (q9 + 10 + ((3 + u9) * cb)))), (15, .int (nI u9)), (14, .int (nI q9)), (13, .int (nI i)), (9, .int (nI (nsS (B.1 k)))), (4, .int (nI (nn (B.1 k) 2))), (3, .int (nI (nn (B.1 k) 6))), (2, .int (nI (nn (B.1 k) 1))), (0, .ref be), (1, .int (nI k))]) hx hb dL_isSo_451 hl (by decide) rfl (fun ls hl => ?_)
                                refine lv_iinc (v := nI (j + 1)) (lv' := [(17, .int (nI (j + 1))), (12, .int (nI (max tv 0))), (10, .int (nI (gd + b9))), (11, .int (nI (q9 + 10 + ((3 + u9) * cb)))), (16, .int (nI (q9 + 10 + ((3 + u9) * cb)))), (15, .int (nI u9)), (14, .int (nI q9)), (13, .int (nI i)), (9, .int (nI (nsS (B.1 k)))), (4, .int (nI (nn (B.1 k) 2))), (3, .int (nI (nn (B.1 k) 6))), (2, .int (nI (nn (B.1 k) 1))), (0, .ref be), (1, .int (nI k))]) hx hb dL_isSo_453 hl (k := 1) rfl (nI_add j 1) (by decide) rfl (fun ls hl => ?_)
                                refine lv_goto (tgt := 417) hx hb dL_isSo_456 (by decide) ?_
                                exact ih_417 (j + 1) (max tv 0) (by omega) (by first | assumption | omega | rfl) (by first | assumption | omega | rfl) (by rw [ex_s (Q := fun x => (vS (B.1 k)) (x * 9 + 1) = (vS (B.1 k)) (i * 9 + 1)), ← or_assoc, ← htv2]; have hw1 : (vS (B.1 k)) (j * 9 + 1) = _ := hw9.symm; have hw2 : (vS (B.1 k)) (i * 9 + 1) = _ := hw8.symm; rw [hw1, hw2]; exact ⟨fun h => Or.inl (by omega), fun h => h.elim (fun h => by omega) (fun h => absurd h c442)⟩) _ _ _ hP hD hS (lv_sub hl [0, 1, 2, 3, 4, 5, 6, 7, 8, 9, 10, 11, 12, 13] rfl)
                              ·
                                refine lv_iconst (v := nI 1) hx hb dL_isSo_445 (by decide) ?_
                                refine lv_goto (tgt := 450) hx hb dL_isSo_446 (by decide) ?_
                                refine lv_ior hx hb dL_isSo_450 ?_
                                refine W.eq (g2 := F0 m 451 ls [.int (nI (max tv 1))]) (by rw [or01 htv1 (by decide)]) ?_
                                refine lv_istore (lv' := [(12, .int (nI (max tv 1))), (17, .int (nI j)), (10, .int (nI (gd + b9))), (11, .int (nI (q9 + 10 + ((3 + u9) * cb)))), (16, .int (nI (q9 + 10 + ((3 + u9) * cb)))), (15, .int (nI u9)), (14, .int (nI q9)), (13, .int (nI i)), (9, .int (nI (nsS (B.1 k)))), (4, .int (nI (nn (B.1 k) 2))), (3, .int (nI (nn (B.1 k) 6))), (2, .int (nI (nn (B.1 k) 1))), (0, .ref be), (1, .int (nI k))]) hx hb dL_isSo_451 hl (by decide) rfl (fun ls hl => ?_)
                                refine lv_iinc (v := nI (j + 1)) (lv' := [(17, .int (nI (j + 1))), (12, .int (nI (max tv 1))), (10, .int (nI (gd + b9))), (11, .int (nI (q9 + 10 + ((3 + u9) * cb)))), (16, .int (nI (q9 + 10 + ((3 + u9) * cb)))), (15, .int (nI u9)), (14, .int (nI q9)), (13, .int (nI i)), (9, .int (nI (nsS (B.1 k)))), (4, .int (nI (nn (B.1 k) 2))), (3, .int (nI (nn (B.1 k) 6))), (2, .int (nI (nn (B.1 k) 1))), (0, .ref be), (1, .int (nI k))]) hx hb dL_isSo_453 hl (k := 1) rfl (nI_add j 1) (by decide) rfl (fun ls hl => ?_)
                                refine lv_goto (tgt := 417) hx hb dL_isSo_456 (by decide) ?_
                                exact ih_417 (j + 1) (max tv 1) (by omega) (by first | assumption | omega | rfl) (by first | assumption | omega | rfl) (by rw [ex_s (Q := fun x => (vS (B.1 k)) (x * 9 + 1) = (vS (B.1 k)) (i * 9 + 1)), ← or_assoc, ← htv2]; have hw1 : (vS (B.1 k)) (j * 9 + 1) = _ := hw9.symm; have hw2 : (vS (B.1 k)) (i * 9 + 1) = _ := hw8.symm; rw [hw1, hw2]; exact ⟨fun _ => Or.inr c442, fun _ => by omega⟩) _ _ _ hP hD hS (lv_sub hl [0, 1, 2, 3, 4, 5, 6, 7, 8, 9, 10, 11, 12, 13] rfl)
                        exact lp_417 (i + 1) 0 tw (by omega) (by first | assumption | omega | rfl) (by first | assumption | omega | rfl) (by rw [htw2]; exact ⟨Or.inl, fun h => h.elim id (fun ⟨x, h1, _⟩ => absurd h1 (by omega))⟩) _ _ _ hP hD hS (lv_sub hl [0, 7, 1, 2, 3, 4, 5, 6, 8, 9, 10, 11, 12, 13] rfl)
                      refine lv_iconst (v := nI 4) hx hb dL_isSo_376 (by decide) ?_
                      refine lv_icmp_ge (tgt := 397) hx hb dL_isSo_377 (by decide) (fun c377 => ?_) (fun c377 => ?_)
                      ·
                        rw [qle (a := 4) (b := u9) (by omega) (by omega)] at c377
                        exact jn_397  trivial  _ _ _ hP hD hS (lv_sub hl [0, 1, 2, 3, 4, 5, 6, 7, 8, 9, 10, 11, 12] rfl)
                      ·
                        rw [qle (a := 4) (b := u9) (by omega) (by omega)] at c377
                        refine lv_aload_n hx hb dL_isSo_380 rfl (lv_at hl 11 rfl) ?_
                        refine lv_iload_n hx hb dL_isSo_381 rfl (lv_at hl 12 rfl) ?_
                        refine lv_iload hx hb dL_isSo_382 (lv_at hl 3 rfl) ?_
                        refine lv_iconst (v := nI 5) hx hb dL_isSo_384 (by decide) ?_
                        refine lv_iload hx hb dL_isSo_385 (lv_at hl 1 rfl) ?_
                        refine lv_iadd hx hb dL_isSo_387 ?_
                        rw [nI_add 5 u9]
                        have hF := chF [] hD hS hA
                        refine va_calli (va_runV (As := [.int (nI k), .int (nI i), .int (nI (5 + u9))]) (rest := []) ⟨hx, hb, hml, hown, hts⟩ (c_X6_ofSector_B l D kA z B be k i (5 + u9) (by first | assumption | omega) (by first | assumption | omega) (by first | assumption | omega) (by first | assumption | omega) (by first | assumption | omega) _) (cwV 3 hts h_L_isSo_14 rfl rfl rfl (by decide +kernel) ⟨Nat.le_of_ble_eq_true rfl, Nat.le_of_ble_eq_true rfl⟩) (fPvB [] (hbe) hK hP hD hS hG hF) rfl rfl hl.1 rfl (lv_room (Nat.le_of_ble_eq_true rfl)) dL_isSo_388 ⟨Nat.le_of_ble_eq_true rfl, Nat.le_of_ble_eq_true rfl⟩) hS (fun q _ h => hF q h) hF (fun r_67 w1 t H locs ht hvm hw hB hz1 hk1 hS => ?_)
                        obtain ⟨hP, hD⟩ := chJ [] hP hD hk1 hF ht hB
                        try dsimp only at hw
                        obtain ⟨rfl, e_67⟩ := hw
                        have hP : va_P D vwCl (wB kA B) H := hP
                        have hD : va_D A (wB kA B) := hD
                        have hv5 := e_67
                        refine lv_iconst (v := -1) hx hb dL_isSo_391 (by decide) ?_
                        refine lv_icmp_eq (tgt := 397) hx hb dL_isSo_392 (by decide) (fun _ => ?_) (fun c392 => absurd (by rw [hv5, show oSe (B.1 k) i (5 + u9) = (vS (B.1 k)) (i * 9 + 5 + u9) from congrArg (vS (B.1 k)) (show i * 9 + (5 + u9) = i * 9 + 5 + u9 by omega)]; exact hq13 u9 (Nat.le_refl _) (by omega)) c392)
                        exact jn_397  trivial  _ _ _ hP hD hS (lv_sub hl [0, 1, 2, 3, 4, 5, 6, 7, 8, 9, 10, 11, 12] rfl)
                    refine lv_icmp_ne (tgt := 291) hx hb dL_isSo_283 (by decide) (fun c283 => ?_) (fun c283 => ?_)
                    ·
                      rw [qeq (a := (nn (B.1 k) 0)) (b := 2) (by omega) (by omega)] at c283
                      refine lv_bipush (v := nI 16) hx hb dL_isSo_291 (by decide) ?_
                      exact jn_293 16 trivial (by first | exact (cB_2 (c := nn (B.1 k) 0) (by omega)).symm | exact (cB_n (c := nn (B.1 k) 0) (by omega)).symm) _ _ _ hP hD hS (lv_sub hl [0, 1, 2, 3, 4, 5, 6, 7, 8, 9, 10, 11] rfl)
                    ·
                      rw [qeq (a := (nn (B.1 k) 0)) (b := 2) (by omega) (by omega)] at c283
                      refine lv_bipush (v := nI 10) hx hb dL_isSo_286 (by decide) ?_
                      refine lv_goto (tgt := 293) hx hb dL_isSo_288 (by decide) ?_
                      exact jn_293 10 trivial (by first | exact (cB_2 (c := nn (B.1 k) 0) (by omega)).symm | exact (cB_n (c := nn (B.1 k) 0) (by omega)).symm) _ _ _ hP hD hS (lv_sub hl [0, 1, 2, 3, 4, 5, 6, 7, 8, 9, 10, 11] rfl)
              exact lp_240 (nsS (B.1 k) + 1) 0 0 0 0 (by omega) (by first | assumption | omega | rfl) rfl hE0.symm (by first | assumption | omega | rfl) (⟨fun h => absurd h (by decide), fun ⟨x, y, h1, h2, _⟩ => absurd h2 (by omega)⟩) _ _ _ hP hD hS (lv_sub hl [0, 1, 2, 3, 4, 8, 9, 10, 11, 12] rfl)
            ·
              rw [qz (a := (nn (B.1 k) 6 + (nn (B.1 k) 2))) (by omega)] at c181
              refine lv_dload hx hb dL_isSo_184 (lv_at hl 0 rfl) ?_
              refine lv_dconst0 hx hb dL_isSo_186 ?_
              refine lv_dcmp hx hb dL_isSo_187 ?_
              refine lv_if_eq (tgt := 220) hx hb dL_isSo_188 (by decide) (fun _ => ?_) (fun c188 => absurd (by rw [hsu, sureF, if_pos (by omega)]; decide +kernel) c188)
              refine lv_aload_n hx hb dL_isSo_220 rfl (lv_at hl 6 rfl) ?_
              refine lv_iload_n hx hb dL_isSo_221 rfl (lv_at hl 7 rfl) ?_
              refine lv_iconst (v := nI 5) hx hb dL_isSo_222 (by decide) ?_
              have hF := chF [] hD hS hA
              refine va_calli (va_runV (As := [.int (nI k), .int (nI 5)]) (rest := []) ⟨hx, hb, hml, hown, hts⟩ (c_X6_ofTrack_B5 l D kA z B be k (by first | assumption | omega) (by first | assumption | omega) (by first | assumption | omega) _) (cwV 2 hts h_L_isSo_5 rfl rfl rfl (by decide +kernel) ⟨Nat.le_of_ble_eq_true rfl, Nat.le_of_ble_eq_true rfl⟩) (fPvB [] (hbe) hK hP hD hS hG hF) rfl rfl hl.1 rfl (lv_room (Nat.le_of_ble_eq_true rfl)) dL_isSo_223 ⟨Nat.le_of_ble_eq_true rfl, Nat.le_of_ble_eq_true rfl⟩) hS (fun q _ h => hF q h) hF (fun r_68 w1 t H locs ht hvm hw hB hz1 hk1 hS => ?_)
              obtain ⟨hP, hD⟩ := chJ [] hP hD hk1 hF ht hB
              try dsimp only at hw
              obtain ⟨rfl, e_68⟩ := hw
              replace e_68 := e_68.symm
              subst e_68
              have hP : va_P D vwCl (wB kA B) H := hP
              have hD : va_D A (wB kA B) := hD
              refine lv_istore (lv' := [(9, .int (nI (nsS (B.1 k)))), (7, .double r_47), (6, .int (nI lg9)), (5, .int (nI sh9)), (4, .int (nI (nn (B.1 k) 2))), (3, .int (nI (nn (B.1 k) 6))), (2, .int (nI (nn (B.1 k) 1))), (0, .ref be), (1, .int (nI k))]) hx hb dL_isSo_226 hl (by decide) rfl (fun ls hl => ?_)
              refine lv_iconst (v := nI 0) hx hb dL_isSo_228 (by decide) ?_
              refine lv_istore (lv' := [(10, .int (nI 0)), (9, .int (nI (nsS (B.1 k)))), (7, .double r_47), (6, .int (nI lg9)), (5, .int (nI sh9)), (4, .int (nI (nn (B.1 k) 2))), (3, .int (nI (nn (B.1 k) 6))), (2, .int (nI (nn (B.1 k) 1))), (0, .ref be), (1, .int (nI k))]) hx hb dL_isSo_229 hl (by decide) rfl (fun ls hl => ?_)
              refine lv_iconst (v := nI 0) hx hb dL_isSo_231 (by decide) ?_
              refine lv_istore (lv' := [(11, .int (nI 0)), (10, .int (nI 0)), (9, .int (nI (nsS (B.1 k)))), (7, .double r_47), (6, .int (nI lg9)), (5, .int (nI sh9)), (4, .int (nI (nn (B.1 k) 2))), (3, .int (nI (nn (B.1 k) 6))), (2, .int (nI (nn (B.1 k) 1))), (0, .ref be), (1, .int (nI k))]) hx hb dL_isSo_232 hl (by decide) rfl (fun ls hl => ?_)
              refine lv_iconst (v := nI 0) hx hb dL_isSo_234 (by decide) ?_
              refine lv_istore (lv' := [(12, .int (nI 0)), (11, .int (nI 0)), (10, .int (nI 0)), (9, .int (nI (nsS (B.1 k)))), (7, .double r_47), (6, .int (nI lg9)), (5, .int (nI sh9)), (4, .int (nI (nn (B.1 k) 2))), (3, .int (nI (nn (B.1 k) 6))), (2, .int (nI (nn (B.1 k) 1))), (0, .ref be), (1, .int (nI k))]) hx hb dL_isSo_235 hl (by decide) rfl (fun ls hl => ?_)
              refine lv_iconst (v := nI 0) hx hb dL_isSo_237 (by decide) ?_
              refine lv_istore (lv' := [(13, .int (nI 0)), (12, .int (nI 0)), (11, .int (nI 0)), (10, .int (nI 0)), (9, .int (nI (nsS (B.1 k)))), (7, .double r_47), (6, .int (nI lg9)), (5, .int (nI sh9)), (4, .int (nI (nn (B.1 k) 2))), (3, .int (nI (nn (B.1 k) 6))), (2, .int (nI (nn (B.1 k) 1))), (0, .ref be), (1, .int (nI k))]) hx hb dL_isSo_238 hl (by decide) rfl (fun ls hl => ?_)
              have lp_240 : ∀ (n_240 : Nat) (i : Nat) (gd : Nat) (at9 : Nat) (tw : Nat), nsS (B.1 k) - i < n_240 → (i ≤ nsS (B.1 k)) → (gd = cntG (vS (B.1 k)) i) → (at9 = E i) → (tw ≤ 1) → (tw = 1 ↔ isTw (vS (B.1 k)) i) → ∀ (H : Heap) (locs : List Loc) (ls : Array Slot), va_P D vwCl (wB kA B) H → va_D A (wB kA B) → va_S A s.heap H locs → lv_has ls 18 [(13, .int (nI i)), (12, .int (nI tw)), (11, .int (nI at9)), (10, .int (nI gd)), (9, .int (nI (nsS (B.1 k)))), (4, .int (nI (nn (B.1 k) 2))), (3, .int (nI (nn (B.1 k) 6))), (2, .int (nI (nn (B.1 k) 1))), (0, .ref be), (1, .int (nI k))] → W p l e ({ frames := 4, cells := 0, slots := 0, locals := 90 }) s m args below meth c H locs 0 0 (MQ below (va_Qi (fun r w => w = (wB kA B) ∧ (r = nI 1)) (fB D (tyL kA) A) A) args s 0 0 A) (F0 m 240 ls []) := by
                clear hP hD hS hl
                intro n_240
                induction n_240 with
                | zero =>
                  intro i gd at9 tw hm_240 hi1 hgd hat htw1 htw2
                  exact absurd hm_240 (by omega)
                | succ n_240 ih_240 =>
                  intro i gd at9 tw hm_240 hi1 hgd hat htw1 htw2 H locs ls hP hD hS hl
                  have hgd8 := cntG_le (vS (B.1 k)) i
                  rw [← hgd] at hgd8
                  refine lv_iload hx hb dL_isSo_240 (lv_at hl 0 rfl) ?_
                  refine lv_iload hx hb dL_isSo_242 (lv_at hl 4 rfl) ?_
                  refine lv_icmp_ge (tgt := 465) hx hb dL_isSo_244 (by decide) (fun c244 => ?_) (fun c244 => ?_)
                  ·
                    rw [qle (a := (nsS (B.1 k))) (b := i) (by omega) (by omega)] at c244
                    rw [show i = nsS (B.1 k) from by omega] at hgd htw2
                    have hgN : gd = ngS (B.1 k) := by rw [hgd, hngE]
                    have htN := twN_of htw1 htw2
                    refine lv_iload hx hb dL_isSo_465 (lv_at hl 4 rfl) ?_
                    refine lv_iload hx hb dL_isSo_467 (lv_at hl 3 rfl) ?_
                    have jn_477 : ∀ (g1 : Nat) (_ : True), (g1 = if gd < nsS (B.1 k) then 1 else 0) → ∀ (H : Heap) (locs : List Loc) (ls : Array Slot), va_P D vwCl (wB kA B) H → va_D A (wB kA B) → va_S A s.heap H locs → lv_has ls 18 [(13, .int (nI i)), (12, .int (nI tw)), (11, .int (nI at9)), (10, .int (nI gd)), (9, .int (nI (nsS (B.1 k)))), (4, .int (nI (nn (B.1 k) 2))), (3, .int (nI (nn (B.1 k) 6))), (2, .int (nI (nn (B.1 k) 1))), (0, .ref be), (1, .int (nI k))] → W p l e ({ frames := 4, cells := 0, slots := 0, locals := 90 }) s m args below meth c H locs 0 0 (MQ below (va_Qi (fun r w => w = (wB kA B) ∧ (r = nI 1)) (fB D (tyL kA) A) A) args s 0 0 A) (F0 m 477 ls [.int (nI g1)]) := by
                      clear hP hD hS hl
                      intro g1 _ hg1 H locs ls hP hD hS hl
                      refine lv_iload hx hb dL_isSo_477 (lv_at hl 1 rfl) ?_
                      have jn_487 : ∀ (g2 : Nat) (_ : True), (g2 = if tw = 1 then 2 else 0) → ∀ (H : Heap) (locs : List Loc) (ls : Array Slot), va_P D vwCl (wB kA B) H → va_D A (wB kA B) → va_S A s.heap H locs → lv_has ls 18 [(13, .int (nI i)), (12, .int (nI tw)), (11, .int (nI at9)), (10, .int (nI gd)), (9, .int (nI (nsS (B.1 k)))), (4, .int (nI (nn (B.1 k) 2))), (3, .int (nI (nn (B.1 k) 6))), (2, .int (nI (nn (B.1 k) 1))), (0, .ref be), (1, .int (nI k))] → W p l e ({ frames := 4, cells := 0, slots := 0, locals := 90 }) s m args below meth c H locs 0 0 (MQ below (va_Qi (fun r w => w = (wB kA B) ∧ (r = nI 1)) (fB D (tyL kA) A) A) args s 0 0 A) (F0 m 487 ls [.int (nI g2), .int (nI g1)]) := by
                        clear hP hD hS hl
                        intro g2 _ hg2 H locs ls hP hD hS hl
                        refine lv_iadd hx hb dL_isSo_487 ?_
                        rw [nI_add g1 g2]
                        refine lv_iload hx hb dL_isSo_488 (lv_at hl 5 rfl) ?_
                        have jn_498 : ∀ (g3 : Nat) (_ : True), (g3 = if 0 < nn (B.1 k) 2 then 4 else 0) → ∀ (H : Heap) (locs : List Loc) (ls : Array Slot), va_P D vwCl (wB kA B) H → va_D A (wB kA B) → va_S A s.heap H locs → lv_has ls 18 [(13, .int (nI i)), (12, .int (nI tw)), (11, .int (nI at9)), (10, .int (nI gd)), (9, .int (nI (nsS (B.1 k)))), (4, .int (nI (nn (B.1 k) 2))), (3, .int (nI (nn (B.1 k) 6))), (2, .int (nI (nn (B.1 k) 1))), (0, .ref be), (1, .int (nI k))] → W p l e ({ frames := 4, cells := 0, slots := 0, locals := 90 }) s m args below meth c H locs 0 0 (MQ below (va_Qi (fun r w => w = (wB kA B) ∧ (r = nI 1)) (fB D (tyL kA) A) A) args s 0 0 A) (F0 m 498 ls [.int (nI g3), .int (nI (g1 + g2))]) := by
                          clear hP hD hS hl
                          intro g3 _ hg3 H locs ls hP hD hS hl
                          refine lv_iadd hx hb dL_isSo_498 ?_
                          rw [nI_add (g1 + g2) g3]
                          refine lv_aload_n hx hb dL_isSo_499 rfl (lv_at hl 8 rfl) ?_
                          refine lv_iload_n hx hb dL_isSo_500 rfl (lv_at hl 9 rfl) ?_
                          refine lv_bipush (v := nI 7) hx hb dL_isSo_501 (by decide) ?_
                          have hF := chF [] hD hS hA
                          refine va_calli (va_runV (As := [.int (nI k), .int (nI 7)]) (rest := [.int (nI (g1 + g2 + g3))]) ⟨hx, hb, hml, hown, hts⟩ (c_X6_ofTrack_B7 l D kA z B be k (by first | assumption | omega) (by first | assumption | omega) (by first | assumption | omega) _) (cwV 2 hts h_L_isSo_6 rfl rfl rfl (by decide +kernel) ⟨Nat.le_of_ble_eq_true rfl, Nat.le_of_ble_eq_true rfl⟩) (fPvB [] (hbe) hK hP hD hS hG hF) rfl rfl hl.1 rfl (lv_room (Nat.le_of_ble_eq_true rfl)) dL_isSo_503 ⟨Nat.le_of_ble_eq_true rfl, Nat.le_of_ble_eq_true rfl⟩) hS (fun q _ h => hF q h) hF (fun r_69 w1 t H locs ht hvm hw hB hz1 hk1 hS => ?_)
                          obtain ⟨hP, hD⟩ := chJ [] hP hD hk1 hF ht hB
                          try dsimp only at hw
                          obtain ⟨rfl, e_69⟩ := hw
                          replace e_69 := e_69.symm
                          subst e_69
                          have hP : va_P D vwCl (wB kA B) H := hP
                          have hD : va_D A (wB kA B) := hD
                          have jn_515 : ∀ (g4 : Nat) (_ : True), (g4 = if 0 < stS (B.1 k) then 8 else 0) → ∀ (H : Heap) (locs : List Loc) (ls : Array Slot), va_P D vwCl (wB kA B) H → va_D A (wB kA B) → va_S A s.heap H locs → lv_has ls 18 [(13, .int (nI i)), (12, .int (nI tw)), (11, .int (nI at9)), (10, .int (nI gd)), (9, .int (nI (nsS (B.1 k)))), (4, .int (nI (nn (B.1 k) 2))), (3, .int (nI (nn (B.1 k) 6))), (2, .int (nI (nn (B.1 k) 1))), (0, .ref be), (1, .int (nI k))] → W p l e ({ frames := 4, cells := 0, slots := 0, locals := 90 }) s m args below meth c H locs 0 0 (MQ below (va_Qi (fun r w => w = (wB kA B) ∧ (r = nI 1)) (fB D (tyL kA) A) A) args s 0 0 A) (F0 m 515 ls [.int (nI g4), .int (nI (g1 + g2 + g3))]) := by
                            clear hP hD hS hl
                            intro g4 _ hg4 H locs ls hP hD hS hl
                            refine lv_iadd hx hb dL_isSo_515 ?_
                            rw [nI_add (g1 + g2 + g3) g4]
                            refine lv_bipush (v := nI 16) hx hb dL_isSo_516 (by decide) ?_
                            refine lv_aload_n hx hb dL_isSo_518 rfl (lv_at hl 8 rfl) ?_
                            refine lv_iload_n hx hb dL_isSo_519 rfl (lv_at hl 9 rfl) ?_
                            refine lv_bipush (v := nI 8) hx hb dL_isSo_520 (by decide) ?_
                            have hF := chF [] hD hS hA
                            refine va_calli (va_runV (As := [.int (nI k), .int (nI 8)]) (rest := [.int (nI 16), .int (nI (g1 + g2 + g3 + g4))]) ⟨hx, hb, hml, hown, hts⟩ (c_X6_ofTrack_B8 l D kA z B be k (by first | assumption | omega) (by first | assumption | omega) (by first | assumption | omega) _) (cwV 2 hts h_L_isSo_7 rfl rfl rfl (by decide +kernel) ⟨Nat.le_of_ble_eq_true rfl, Nat.le_of_ble_eq_true rfl⟩) (fPvB [] (hbe) hK hP hD hS hG hF) rfl rfl hl.1 rfl (lv_room (Nat.le_of_ble_eq_true rfl)) dL_isSo_522 ⟨Nat.le_of_ble_eq_true rfl, Nat.le_of_ble_eq_true rfl⟩) hS (fun q _ h => hF q h) hF (fun r_70 w1 t H locs ht hvm hw hB hz1 hk1 hS => ?_)
                            obtain ⟨hP, hD⟩ := chJ [] hP hD hk1 hF ht hB
                            try dsimp only at hw
                            obtain ⟨rfl, e_70⟩ := hw
                            replace e_70 := e_70.symm
                            subst e_70
                            have hP : va_P D vwCl (wB kA B) H := hP
                            have hD : va_D A (wB kA B) := hD
                            refine lv_imul hx hb dL_isSo_525 ?_
                            rw [pk_mul 16 (cuS (B.1 k))]
                            refine lv_iadd hx hb dL_isSo_526 ?_
                            rw [nI_add (g1 + g2 + g3 + g4) (16 * (cuS (B.1 k)))]
                            refine lv_iload_n hx hb dL_isSo_527 rfl (lv_at hl 6 rfl) ?_
                            refine lv_sipush (v := nI 300) hx hb dL_isSo_528 (by decide) ?_
                            have jn_540 : ∀ (g6 : Nat) (_ : True), (g6 = if 300 < nn (B.1 k) 6 then 32 else 0) → ∀ (H : Heap) (locs : List Loc) (ls : Array Slot), va_P D vwCl (wB kA B) H → va_D A (wB kA B) → va_S A s.heap H locs → lv_has ls 18 [(13, .int (nI i)), (12, .int (nI tw)), (11, .int (nI at9)), (10, .int (nI gd)), (9, .int (nI (nsS (B.1 k)))), (4, .int (nI (nn (B.1 k) 2))), (3, .int (nI (nn (B.1 k) 6))), (2, .int (nI (nn (B.1 k) 1))), (0, .ref be), (1, .int (nI k))] → W p l e ({ frames := 4, cells := 0, slots := 0, locals := 90 }) s m args below meth c H locs 0 0 (MQ below (va_Qi (fun r w => w = (wB kA B) ∧ (r = nI 1)) (fB D (tyL kA) A) A) args s 0 0 A) (F0 m 540 ls [.int (nI g6), .int (nI (g1 + g2 + g3 + g4 + (16 * (cuS (B.1 k)))))]) := by
                              clear hP hD hS hl
                              intro g6 _ hg6 H locs ls hP hD hS hl
                              refine lv_iadd hx hb dL_isSo_540 ?_
                              rw [nI_add (g1 + g2 + g3 + g4 + (16 * (cuS (B.1 k)))) g6]
                              have hgS : gdS (B.1 k) = g1 + g2 + g3 + g4 + 16 * cuS (B.1 k) + g6 := by rw [gdS_eq, ← hgN, ← htN, ← hg1, ← hg2, ← hg3, ← hg4, ← hg6]; rcases (show cuS (B.1 k) = 0 ∨ cuS (B.1 k) = 1 by omega) with h | h <;> rw [h] <;> rfl
                              have hg1b : g1 ≤ 1 := by rw [hg1]; split <;> omega
                              have hg2b : g2 ≤ 2 := by rw [hg2]; split <;> omega
                              have hg3b : g3 ≤ 4 := by rw [hg3]; split <;> omega
                              have hg4b : g4 ≤ 8 := by rw [hg4]; split <;> omega
                              have hg6b : g6 ≤ 32 := by rw [hg6]; split <;> omega
                              refine lv_istore (lv' := [(13, .int (nI (g1 + g2 + g3 + g4 + (16 * (cuS (B.1 k))) + g6))), (12, .int (nI tw)), (11, .int (nI at9)), (10, .int (nI gd)), (9, .int (nI (nsS (B.1 k)))), (4, .int (nI (nn (B.1 k) 2))), (3, .int (nI (nn (B.1 k) 6))), (2, .int (nI (nn (B.1 k) 1))), (0, .ref be), (1, .int (nI k))]) hx hb dL_isSo_541 hl (by decide) rfl (fun ls hl => ?_)
                              refine lv_aload_n hx hb dL_isSo_543 rfl (lv_at hl 8 rfl) ?_
                              refine lv_iload_n hx hb dL_isSo_544 rfl (lv_at hl 9 rfl) ?_
                              have hF := chF [] hD hS hA
                              refine va_calli (va_runV (As := [.int (nI k)]) (rest := []) ⟨hx, hb, hml, hown, hts⟩ (c_X6_plainLong_B l D kA z B be k (by first | assumption | omega) (by first | assumption | omega) (by first | assumption | omega) _) (cwV 1 hts h_L_isSo_8 rfl rfl rfl (by decide +kernel) ⟨Nat.le_of_ble_eq_true rfl, Nat.le_of_ble_eq_true rfl⟩) (fPvB [] (hbe) hK hP hD hS hG hF) rfl rfl hl.1 rfl (lv_room (Nat.le_of_ble_eq_true rfl)) dL_isSo_545 ⟨Nat.le_of_ble_eq_true rfl, Nat.le_of_ble_eq_true rfl⟩) hS (fun q _ h => hF q h) hF (fun r_71 w1 t H locs ht hvm hw hB hz1 hk1 hS => ?_)
                              obtain ⟨hP, hD⟩ := chJ [] hP hD hk1 hF ht hB
                              try dsimp only at hw
                              obtain ⟨rfl, e_71⟩ := hw
                              replace e_71 := e_71.symm
                              subst e_71
                              have hP : va_P D vwCl (wB kA B) H := hP
                              have hD : va_D A (wB kA B) := hD
                              refine lv_istore (lv' := [(14, .int (nI (plS (B.1 k)))), (13, .int (nI (g1 + g2 + g3 + g4 + (16 * (cuS (B.1 k))) + g6))), (12, .int (nI tw)), (11, .int (nI at9)), (10, .int (nI gd)), (9, .int (nI (nsS (B.1 k)))), (4, .int (nI (nn (B.1 k) 2))), (3, .int (nI (nn (B.1 k) 6))), (2, .int (nI (nn (B.1 k) 1))), (0, .ref be), (1, .int (nI k))]) hx hb dL_isSo_548 hl (by decide) rfl (fun ls hl => ?_)
                              refine lv_aload_n hx hb dL_isSo_550 rfl (lv_at hl 9 rfl) ?_
                              refine lv_iload_n hx hb dL_isSo_551 rfl (lv_at hl 10 rfl) ?_
                              refine lv_bipush (v := nI 6) hx hb dL_isSo_552 (by decide) ?_
                              have hF := chF [] hD hS hA
                              refine va_calli (va_runV (As := [.int (nI k), .int (nI 6)]) (rest := []) ⟨hx, hb, hml, hown, hts⟩ (c_X6_ofTrack_B6 l D kA z B be k (by first | assumption | omega) (by first | assumption | omega) (by first | assumption | omega) _) (cwV 2 hts h_L_isSo_9 rfl rfl rfl (by decide +kernel) ⟨Nat.le_of_ble_eq_true rfl, Nat.le_of_ble_eq_true rfl⟩) (fPvB [] (hbe) hK hP hD hS hG hF) rfl rfl hl.1 rfl (lv_room (Nat.le_of_ble_eq_true rfl)) dL_isSo_554 ⟨Nat.le_of_ble_eq_true rfl, Nat.le_of_ble_eq_true rfl⟩) hS (fun q _ h => hF q h) hF (fun r_72 w1 t H locs ht hvm hw hB hz1 hk1 hS => ?_)
                              obtain ⟨hP, hD⟩ := chJ [] hP hD hk1 hF ht hB
                              try dsimp only at hw
                              obtain ⟨rfl, e_72⟩ := hw
                              replace e_72 := e_72.symm
                              subst e_72
                              have hP : va_P D vwCl (wB kA B) H := hP
                              have hD : va_D A (wB kA B) := hD
                              refine lv_iload hx hb dL_isSo_557 (lv_at hl 4 rfl) ?_
                              refine lv_icmp_ne (tgt := 638) hx hb dL_isSo_559 (by decide) (fun c559 => False.elim (by rw [qeq (a := (ngS (B.1 k))) (b := gd) (by omega) (by omega)] at c559; omega)) (fun _ => ?_)
                              refine lv_aload_n hx hb dL_isSo_562 rfl (lv_at hl 9 rfl) ?_
                              refine lv_iload_n hx hb dL_isSo_563 rfl (lv_at hl 10 rfl) ?_
                              refine lv_bipush (v := nI 9) hx hb dL_isSo_564 (by decide) ?_
                              have hF := chF [] hD hS hA
                              refine va_calli (va_runV (As := [.int (nI k), .int (nI 9)]) (rest := []) ⟨hx, hb, hml, hown, hts⟩ (c_X6_ofTrack_B9 l D kA z B be k (by first | assumption | omega) (by first | assumption | omega) (by first | assumption | omega) _) (cwV 2 hts h_L_isSo_10 rfl rfl rfl (by decide +kernel) ⟨Nat.le_of_ble_eq_true rfl, Nat.le_of_ble_eq_true rfl⟩) (fPvB [] (hbe) hK hP hD hS hG hF) rfl rfl hl.1 rfl (lv_room (Nat.le_of_ble_eq_true rfl)) dL_isSo_566 ⟨Nat.le_of_ble_eq_true rfl, Nat.le_of_ble_eq_true rfl⟩) hS (fun q _ h => hF q h) hF (fun r_73 w1 t H locs ht hvm hw hB hz1 hk1 hS => ?_)
                              obtain ⟨hP, hD⟩ := chJ [] hP hD hk1 hF ht hB
                              try dsimp only at hw
                              obtain ⟨rfl, e_73⟩ := hw
                              replace e_73 := e_73.symm
                              subst e_73
                              have hP : va_P D vwCl (wB kA B) H := hP
                              have hD : va_D A (wB kA B) := hD
                              refine lv_iload hx hb dL_isSo_569 (lv_at hl 1 rfl) ?_
                              refine lv_icmp_ne (tgt := 638) hx hb dL_isSo_571 (by decide) (fun c571 => False.elim (by rw [qeq (a := (gdS (B.1 k))) (b := (g1 + g2 + g3 + g4 + (16 * (cuS (B.1 k))) + g6)) (by omega) (by omega)] at c571; omega)) (fun _ => ?_)
                              refine lv_aload_n hx hb dL_isSo_574 rfl (lv_at hl 9 rfl) ?_
                              refine lv_iload_n hx hb dL_isSo_575 rfl (lv_at hl 10 rfl) ?_
                              have hF := chF [] hD hS hA
                              refine va_calli (va_runV (As := [.int (nI k)]) (rest := []) ⟨hx, hb, hml, hown, hts⟩ (c_X6_wouldLose_B l D kA z B be k (by first | assumption | omega) (by first | assumption | omega) (by first | assumption | omega) _) (cwV 1 hts h_L_isSo_11 rfl rfl rfl (by decide +kernel) ⟨Nat.le_of_ble_eq_true rfl, Nat.le_of_ble_eq_true rfl⟩) (fPvB [] (hbe) hK hP hD hS hG hF) rfl rfl hl.1 rfl (lv_room (Nat.le_of_ble_eq_true rfl)) dL_isSo_576 ⟨Nat.le_of_ble_eq_true rfl, Nat.le_of_ble_eq_true rfl⟩) hS (fun q _ h => hF q h) hF (fun r_74 w1 t H locs ht hvm hw hB hz1 hk1 hS => ?_)
                              obtain ⟨hP, hD⟩ := chJ [] hP hD hk1 hF ht hB
                              try dsimp only at hw
                              obtain ⟨rfl, e_74⟩ := hw
                              have hP : va_P D vwCl (wB kA B) H := hP
                              have hD : va_D A (wB kA B) := hD
                              have hwl := e_74
                              refine lv_iload hx hb dL_isSo_579 (lv_at hl 1 rfl) ?_
                              refine lv_iconst (v := -1) hx hb dL_isSo_581 (by decide) ?_
                              refine lv_ixor hx hb dL_isSo_582 ?_
                              refine lv_iand hx hb dL_isSo_583 ?_
                              refine lv_if_ne (tgt := 638) hx hb dL_isSo_584 (by decide) (fun c584 => absurd (by rw [hwl, ← hgS]; exact wl_0) c584) (fun _ => ?_)
                              refine lv_aload_n hx hb dL_isSo_587 rfl (lv_at hl 9 rfl) ?_
                              refine lv_iload_n hx hb dL_isSo_588 rfl (lv_at hl 10 rfl) ?_
                              refine lv_aload_n hx hb dL_isSo_589 rfl (lv_at hl 9 rfl) ?_
                              refine lv_iload_n hx hb dL_isSo_590 rfl (lv_at hl 10 rfl) ?_
                              refine lv_iconst (v := nI 0) hx hb dL_isSo_591 (by decide) ?_
                              have hF := chF [] hD hS hA
                              refine va_calli (va_runV (As := [.int (nI k), .int (nI 0)]) (rest := [.int (nI k), .ref be]) ⟨hx, hb, hml, hown, hts⟩ (c_X6_ofTrack_B0 l D kA z B be k (by first | assumption | omega) (by first | assumption | omega) (by first | assumption | omega) _) (cwV 2 hts h_L_isSo_12 rfl rfl rfl (by decide +kernel) ⟨Nat.le_of_ble_eq_true rfl, Nat.le_of_ble_eq_true rfl⟩) (fPvB [] (hbe) hK hP hD hS hG hF) rfl rfl hl.1 rfl (lv_room (Nat.le_of_ble_eq_true rfl)) dL_isSo_592 ⟨Nat.le_of_ble_eq_true rfl, Nat.le_of_ble_eq_true rfl⟩) hS (fun q _ h => hF q h) hF (fun r_75 w1 t H locs ht hvm hw hB hz1 hk1 hS => ?_)
                              obtain ⟨hP, hD⟩ := chJ [] hP hD hk1 hF ht hB
                              try dsimp only at hw
                              obtain ⟨rfl, e_75⟩ := hw
                              replace e_75 := e_75.symm
                              subst e_75
                              have hP : va_P D vwCl (wB kA B) H := hP
                              have hD : va_D A (wB kA B) := hD
                              have hF := chF [] hD hS hA
                              refine va_calli (va_runV (As := [.int (nI k), .int (nI (nn (B.1 k) 0))]) (rest := []) ⟨hx, hb, hml, hown, hts⟩ (c_X6_goodBy_B l D kA z B be k (nn (B.1 k) 0) (by first | assumption | omega) (by first | assumption | omega) (by first | assumption | omega) (by first | assumption | omega) _) (cwV 2 hts h_L_isSo_13 rfl rfl rfl (by decide +kernel) ⟨Nat.le_of_ble_eq_true rfl, Nat.le_of_ble_eq_true rfl⟩) (fPvB [] (hbe) hK hP hD hS hG hF) rfl rfl hl.1 rfl (lv_room (Nat.le_of_ble_eq_true rfl)) dL_isSo_595 ⟨Nat.le_of_ble_eq_true rfl, Nat.le_of_ble_eq_true rfl⟩) hS (fun q _ h => hF q h) hF (fun r_76 w1 t H locs ht hvm hw hB hz1 hk1 hS => ?_)
                              obtain ⟨hP, hD⟩ := chJ [] hP hD hk1 hF ht hB
                              try dsimp only at hw
                              obtain ⟨rfl, e_76⟩ := hw
                              replace e_76 := e_76.symm
                              subst e_76
                              have hP : va_P D vwCl (wB kA B) H := hP
                              have hD : va_D A (wB kA B) := hD
                              refine lv_iload hx hb dL_isSo_598 (lv_at hl 4 rfl) ?_
                              have hgo : ow (nn (B.1 k) 0) (nn (B.1 k) 14) (nn (B.1 k) 8) = gd := by rw [hgN]; rfl
                              refine lv_icmp_ne (tgt := 638) hx hb dL_isSo_600 (by decide) (fun c600 => False.elim (by rw [qeq (a := (ow (nn (B.1 k) 0) (nn (B.1 k) 14) (nn (B.1 k) 8))) (b := gd) (by omega) (by omega)] at c600; omega)) (fun _ => ?_)
                              refine lv_iload hx hb dL_isSo_603 (lv_at hl 0 rfl) ?_
                              refine lv_sipush (v := nI 400) hx hb dL_isSo_605 (by decide) ?_
                              refine lv_icmp_gt (tgt := 638) hx hb dL_isSo_608 (by decide) (fun c608 => False.elim (by rw [qlt (a := 400) (b := (plS (B.1 k))) (by omega) (by omega)] at c608; omega)) (fun _ => ?_)
                              refine lv_iload hx hb dL_isSo_611 (lv_at hl 0 rfl) ?_
                              have jn_621 : ∀ (x1 : Nat) (_ : True), (x1 = if 0 < plS (B.1 k) then 1 else 0) → ∀ (H : Heap) (locs : List Loc) (ls : Array Slot), va_P D vwCl (wB kA B) H → va_D A (wB kA B) → va_S A s.heap H locs → lv_has ls 18 [(14, .int (nI (plS (B.1 k)))), (13, .int (nI (g1 + g2 + g3 + g4 + (16 * (cuS (B.1 k))) + g6))), (12, .int (nI tw)), (11, .int (nI at9)), (10, .int (nI gd)), (9, .int (nI (nsS (B.1 k)))), (4, .int (nI (nn (B.1 k) 2))), (3, .int (nI (nn (B.1 k) 6))), (2, .int (nI (nn (B.1 k) 1))), (0, .ref be), (1, .int (nI k))] → W p l e ({ frames := 4, cells := 0, slots := 0, locals := 90 }) s m args below meth c H locs 0 0 (MQ below (va_Qi (fun r w => w = (wB kA B) ∧ (r = nI 1)) (fB D (tyL kA) A) A) args s 0 0 A) (F0 m 621 ls [.int (nI x1)]) := by
                                clear hP hD hS hl
                                intro x1 _ hx1 H locs ls hP hD hS hl
                                refine lv_iload hx hb dL_isSo_621 (lv_at hl 4 rfl) ?_
                                have jn_631 : ∀ (x2 : Nat) (_ : True), (x2 = if 0 < gd then 1 else 0) → ∀ (H : Heap) (locs : List Loc) (ls : Array Slot), va_P D vwCl (wB kA B) H → va_D A (wB kA B) → va_S A s.heap H locs → lv_has ls 18 [(14, .int (nI (plS (B.1 k)))), (13, .int (nI (g1 + g2 + g3 + g4 + (16 * (cuS (B.1 k))) + g6))), (12, .int (nI tw)), (11, .int (nI at9)), (10, .int (nI gd)), (9, .int (nI (nsS (B.1 k)))), (4, .int (nI (nn (B.1 k) 2))), (3, .int (nI (nn (B.1 k) 6))), (2, .int (nI (nn (B.1 k) 1))), (0, .ref be), (1, .int (nI k))] → W p l e ({ frames := 4, cells := 0, slots := 0, locals := 90 }) s m args below meth c H locs 0 0 (MQ below (va_Qi (fun r w => w = (wB kA B) ∧ (r = nI 1)) (fB D (tyL kA) A) A) args s 0 0 A) (F0 m 631 ls [.int (nI x2), .int (nI x1)]) := by
                                  clear hP hD hS hl
                                  intro x2 _ hx2 H locs ls hP hD hS hl
                                  have hxx : x1 = x2 ∧ x1 ≤ 1 := by exact x12 hplg hx1 (by rw [hx2, hgN])
                                  refine lv_icmp_ne (tgt := 638) hx hb dL_isSo_631 (by decide) (fun c631 => False.elim (by rw [qeq (a := x1) (b := x2) (by omega) (by omega)] at c631; omega)) (fun _ => ?_)
                                  refine lv_iconst (v := nI 1) hx hb dL_isSo_634 (by decide) ?_
                                  refine lv_goto (tgt := 639) hx hb dL_isSo_635 (by decide) ?_
                                  exact endZ hx hb hr hlocks (rfl) hK hP hD hS (⟨rfl, by first | rfl | assumption | omega | (rw [if_pos (by omega)]; first | done | rfl) | (rw [if_neg (by omega)]; first | done | rfl)⟩) (Nat.le_of_ble_eq_true rfl) (Nat.le_of_ble_eq_true rfl) dL_isSo_639
                                refine lv_if_le (tgt := 630) hx hb dL_isSo_623 (by decide) (fun c623 => ?_) (fun c623 => ?_)
                                ·
                                  rw [qnp (a := gd) (by omega)] at c623
                                  refine lv_iconst (v := nI 0) hx hb dL_isSo_630 (by decide) ?_
                                  exact jn_631 0 trivial (by first | rw [if_pos (by omega)] | rw [if_neg (by omega)]) _ _ _ hP hD hS (lv_sub hl [0, 1, 2, 3, 4, 5, 6, 7, 8, 9, 10] rfl)
                                ·
                                  rw [qnp (a := gd) (by omega)] at c623
                                  refine lv_iconst (v := nI 1) hx hb dL_isSo_626 (by decide) ?_
                                  refine lv_goto (tgt := 631) hx hb dL_isSo_627 (by decide) ?_
                                  exact jn_631 1 trivial (by first | rw [if_pos (by omega)] | rw [if_neg (by omega)]) _ _ _ hP hD hS (lv_sub hl [0, 1, 2, 3, 4, 5, 6, 7, 8, 9, 10] rfl)
                              refine lv_if_le (tgt := 620) hx hb dL_isSo_613 (by decide) (fun c613 => ?_) (fun c613 => ?_)
                              ·
                                rw [qnp (a := (plS (B.1 k))) (by omega)] at c613
                                refine lv_iconst (v := nI 0) hx hb dL_isSo_620 (by decide) ?_
                                exact jn_621 0 trivial (by first | rw [if_pos (by omega)] | rw [if_neg (by omega)]) _ _ _ hP hD hS (lv_sub hl [0, 1, 2, 3, 4, 5, 6, 7, 8, 9, 10] rfl)
                              ·
                                rw [qnp (a := (plS (B.1 k))) (by omega)] at c613
                                refine lv_iconst (v := nI 1) hx hb dL_isSo_616 (by decide) ?_
                                refine lv_goto (tgt := 621) hx hb dL_isSo_617 (by decide) ?_
                                exact jn_621 1 trivial (by first | rw [if_pos (by omega)] | rw [if_neg (by omega)]) _ _ _ hP hD hS (lv_sub hl [0, 1, 2, 3, 4, 5, 6, 7, 8, 9, 10] rfl)
                            refine lv_icmp_le (tgt := 539) hx hb dL_isSo_531 (by decide) (fun c531 => ?_) (fun c531 => ?_)
                            ·
                              rw [qle (a := (nn (B.1 k) 6)) (b := 300) (by omega) (by omega)] at c531
                              refine lv_iconst (v := nI 0) hx hb dL_isSo_539 (by decide) ?_
                              exact jn_540 0 trivial (by first | rw [if_pos (by omega)] | rw [if_neg (by omega)]) _ _ _ hP hD hS (lv_sub hl [0, 1, 2, 3, 4, 5, 6, 7, 8, 9] rfl)
                            ·
                              rw [qle (a := (nn (B.1 k) 6)) (b := 300) (by omega) (by omega)] at c531
                              refine lv_bipush (v := nI 32) hx hb dL_isSo_534 (by decide) ?_
                              refine lv_goto (tgt := 540) hx hb dL_isSo_536 (by decide) ?_
                              exact jn_540 32 trivial (by first | rw [if_pos (by omega)] | rw [if_neg (by omega)]) _ _ _ hP hD hS (lv_sub hl [0, 1, 2, 3, 4, 5, 6, 7, 8, 9] rfl)
                          refine lv_if_le (tgt := 514) hx hb dL_isSo_506 (by decide) (fun c506 => ?_) (fun c506 => ?_)
                          ·
                            rw [qnp (a := (stS (B.1 k))) (by omega)] at c506
                            refine lv_iconst (v := nI 0) hx hb dL_isSo_514 (by decide) ?_
                            exact jn_515 0 trivial (by first | rw [if_pos (by omega)] | rw [if_neg (by omega)]) _ _ _ hP hD hS (lv_sub hl [0, 1, 2, 3, 4, 5, 6, 7, 8, 9] rfl)
                          ·
                            rw [qnp (a := (stS (B.1 k))) (by omega)] at c506
                            refine lv_bipush (v := nI 8) hx hb dL_isSo_509 (by decide) ?_
                            refine lv_goto (tgt := 515) hx hb dL_isSo_511 (by decide) ?_
                            exact jn_515 8 trivial (by first | rw [if_pos (by omega)] | rw [if_neg (by omega)]) _ _ _ hP hD hS (lv_sub hl [0, 1, 2, 3, 4, 5, 6, 7, 8, 9] rfl)
                        refine lv_if_le (tgt := 497) hx hb dL_isSo_490 (by decide) (fun c490 => ?_) (fun c490 => ?_)
                        ·
                          rw [qnp (a := (nn (B.1 k) 2)) (by omega)] at c490
                          refine lv_iconst (v := nI 0) hx hb dL_isSo_497 (by decide) ?_
                          exact jn_498 0 trivial (by first | rw [if_pos (by omega)] | rw [if_neg (by omega)]) _ _ _ hP hD hS (lv_sub hl [0, 1, 2, 3, 4, 5, 6, 7, 8, 9] rfl)
                        ·
                          rw [qnp (a := (nn (B.1 k) 2)) (by omega)] at c490
                          refine lv_iconst (v := nI 4) hx hb dL_isSo_493 (by decide) ?_
                          refine lv_goto (tgt := 498) hx hb dL_isSo_494 (by decide) ?_
                          exact jn_498 4 trivial (by first | rw [if_pos (by omega)] | rw [if_neg (by omega)]) _ _ _ hP hD hS (lv_sub hl [0, 1, 2, 3, 4, 5, 6, 7, 8, 9] rfl)
                      refine lv_if_eq (tgt := 486) hx hb dL_isSo_479 (by decide) (fun c479 => ?_) (fun c479 => ?_)
                      ·
                        rw [qz (a := tw) (by omega)] at c479
                        refine lv_iconst (v := nI 0) hx hb dL_isSo_486 (by decide) ?_
                        exact jn_487 0 trivial (by first | rw [if_pos (by omega)] | rw [if_neg (by omega)]) _ _ _ hP hD hS (lv_sub hl [0, 1, 2, 3, 4, 5, 6, 7, 8, 9] rfl)
                      ·
                        rw [qz (a := tw) (by omega)] at c479
                        refine lv_iconst (v := nI 2) hx hb dL_isSo_482 (by decide) ?_
                        refine lv_goto (tgt := 487) hx hb dL_isSo_483 (by decide) ?_
                        exact jn_487 2 trivial (by first | rw [if_pos (by omega)] | rw [if_neg (by omega)]) _ _ _ hP hD hS (lv_sub hl [0, 1, 2, 3, 4, 5, 6, 7, 8, 9] rfl)
                    refine lv_icmp_le (tgt := 476) hx hb dL_isSo_469 (by decide) (fun c469 => ?_) (fun c469 => ?_)
                    ·
                      rw [qle (a := (nsS (B.1 k))) (b := gd) (by omega) (by omega)] at c469
                      refine lv_iconst (v := nI 0) hx hb dL_isSo_476 (by decide) ?_
                      exact jn_477 0 trivial (by first | rw [if_pos (by omega)] | rw [if_neg (by omega)]) _ _ _ hP hD hS (lv_sub hl [0, 1, 2, 3, 4, 5, 6, 7, 8, 9] rfl)
                    ·
                      rw [qle (a := (nsS (B.1 k))) (b := gd) (by omega) (by omega)] at c469
                      refine lv_iconst (v := nI 1) hx hb dL_isSo_472 (by decide) ?_
                      refine lv_goto (tgt := 477) hx hb dL_isSo_473 (by decide) ?_
                      exact jn_477 1 trivial (by first | rw [if_pos (by omega)] | rw [if_neg (by omega)]) _ _ _ hP hD hS (lv_sub hl [0, 1, 2, 3, 4, 5, 6, 7, 8, 9] rfl)
                  ·
                    rw [qle (a := (nsS (B.1 k))) (b := i) (by omega) (by omega)] at c244
                    obtain ⟨q9, u9, hq1, hq2, hq3, hq4, hq5, hq6, hq7, hq8, hq9, hq10, ⟨b9, hb9, hq11⟩, hq12, hq13⟩ := hsO i (by omega)
                    rw [hcxB] at hq6
                    refine lv_aload_n hx hb dL_isSo_247 rfl (lv_at hl 8 rfl) ?_
                    refine lv_iload_n hx hb dL_isSo_248 rfl (lv_at hl 9 rfl) ?_
                    refine lv_iload hx hb dL_isSo_249 (lv_at hl 0 rfl) ?_
                    refine lv_iconst (v := nI 0) hx hb dL_isSo_251 (by decide) ?_
                    have hF := chF [] hD hS hA
                    refine va_calli (va_runV (As := [.int (nI k), .int (nI i), .int (nI 0)]) (rest := []) ⟨hx, hb, hml, hown, hts⟩ (c_X6_ofSector_B l D kA z B be k i 0 (by first | assumption | omega) (by first | assumption | omega) (by first | assumption | omega) (by first | assumption | omega) (by first | assumption | omega) _) (cwV 3 hts h_L_isSo_14 rfl rfl rfl (by decide +kernel) ⟨Nat.le_of_ble_eq_true rfl, Nat.le_of_ble_eq_true rfl⟩) (fPvB [] (hbe) hK hP hD hS hG hF) rfl rfl hl.1 rfl (lv_room (Nat.le_of_ble_eq_true rfl)) dL_isSo_252 ⟨Nat.le_of_ble_eq_true rfl, Nat.le_of_ble_eq_true rfl⟩) hS (fun q _ h => hF q h) hF (fun r_77 w1 t H locs ht hvm hw hB hz1 hk1 hS => ?_)
                    obtain ⟨hP, hD⟩ := chJ [] hP hD hk1 hF ht hB
                    try dsimp only at hw
                    obtain ⟨rfl, e_77⟩ := hw
                    have hP : va_P D vwCl (wB kA B) H := hP
                    have hD : va_D A (wB kA B) := hD
                    refine W.eq (g2 := F0 m 255 ls [.int (nI q9)]) (by rw [show r_77 = nI q9 from (e_77).trans hq1]) ?_
                    refine lv_istore (lv' := [(14, .int (nI q9)), (13, .int (nI i)), (12, .int (nI tw)), (11, .int (nI at9)), (10, .int (nI gd)), (9, .int (nI (nsS (B.1 k)))), (4, .int (nI (nn (B.1 k) 2))), (3, .int (nI (nn (B.1 k) 6))), (2, .int (nI (nn (B.1 k) 1))), (0, .ref be), (1, .int (nI k))]) hx hb dL_isSo_255 hl (by decide) rfl (fun ls hl => ?_)
                    refine lv_aload_n hx hb dL_isSo_257 rfl (lv_at hl 9 rfl) ?_
                    refine lv_iload_n hx hb dL_isSo_258 rfl (lv_at hl 10 rfl) ?_
                    refine lv_iload hx hb dL_isSo_259 (lv_at hl 1 rfl) ?_
                    refine lv_iconst (v := nI 2) hx hb dL_isSo_261 (by decide) ?_
                    have hF := chF [] hD hS hA
                    refine va_calli (va_runV (As := [.int (nI k), .int (nI i), .int (nI 2)]) (rest := []) ⟨hx, hb, hml, hown, hts⟩ (c_X6_ofSector_B l D kA z B be k i 2 (by first | assumption | omega) (by first | assumption | omega) (by first | assumption | omega) (by first | assumption | omega) (by first | assumption | omega) _) (cwV 3 hts h_L_isSo_14 rfl rfl rfl (by decide +kernel) ⟨Nat.le_of_ble_eq_true rfl, Nat.le_of_ble_eq_true rfl⟩) (fPvB [] (hbe) hK hP hD hS hG hF) rfl rfl hl.1 rfl (lv_room (Nat.le_of_ble_eq_true rfl)) dL_isSo_262 ⟨Nat.le_of_ble_eq_true rfl, Nat.le_of_ble_eq_true rfl⟩) hS (fun q _ h => hF q h) hF (fun r_78 w1 t H locs ht hvm hw hB hz1 hk1 hS => ?_)
                    obtain ⟨hP, hD⟩ := chJ [] hP hD hk1 hF ht hB
                    try dsimp only at hw
                    obtain ⟨rfl, e_78⟩ := hw
                    have hP : va_P D vwCl (wB kA B) H := hP
                    have hD : va_D A (wB kA B) := hD
                    refine W.eq (g2 := F0 m 265 ls [.int (nI u9)]) (by rw [show r_78 = nI u9 from (e_78).trans hq2]) ?_
                    refine lv_istore (lv' := [(15, .int (nI u9)), (14, .int (nI q9)), (13, .int (nI i)), (12, .int (nI tw)), (11, .int (nI at9)), (10, .int (nI gd)), (9, .int (nI (nsS (B.1 k)))), (4, .int (nI (nn (B.1 k) 2))), (3, .int (nI (nn (B.1 k) 6))), (2, .int (nI (nn (B.1 k) 1))), (0, .ref be), (1, .int (nI k))]) hx hb dL_isSo_265 hl (by decide) rfl (fun ls hl => ?_)
                    refine lv_iload hx hb dL_isSo_267 (lv_at hl 1 rfl) ?_
                    refine lv_bipush (v := nI 10) hx hb dL_isSo_269 (by decide) ?_
                    refine lv_iadd hx hb dL_isSo_271 ?_
                    rw [nI_add q9 10]
                    refine lv_iconst (v := nI 3) hx hb dL_isSo_272 (by decide) ?_
                    refine lv_iload hx hb dL_isSo_273 (lv_at hl 0 rfl) ?_
                    refine lv_iadd hx hb dL_isSo_275 ?_
                    rw [nI_add 3 u9]
                    refine lv_aload_n hx hb dL_isSo_276 rfl (lv_at hl 10 rfl) ?_
                    refine lv_iload_n hx hb dL_isSo_277 rfl (lv_at hl 11 rfl) ?_
                    refine lv_iconst (v := nI 0) hx hb dL_isSo_278 (by decide) ?_
                    have hF := chF [] hD hS hA
                    refine va_calli (va_runV (As := [.int (nI k), .int (nI 0)]) (rest := [.int (nI (3 + u9)), .int (nI (q9 + 10))]) ⟨hx, hb, hml, hown, hts⟩ (c_X6_ofTrack_B0 l D kA z B be k (by first | assumption | omega) (by first | assumption | omega) (by first | assumption | omega) _) (cwV 2 hts h_L_isSo_12 rfl rfl rfl (by decide +kernel) ⟨Nat.le_of_ble_eq_true rfl, Nat.le_of_ble_eq_true rfl⟩) (fPvB [] (hbe) hK hP hD hS hG hF) rfl rfl hl.1 rfl (lv_room (Nat.le_of_ble_eq_true rfl)) dL_isSo_279 ⟨Nat.le_of_ble_eq_true rfl, Nat.le_of_ble_eq_true rfl⟩) hS (fun q _ h => hF q h) hF (fun r_79 w1 t H locs ht hvm hw hB hz1 hk1 hS => ?_)
                    obtain ⟨hP, hD⟩ := chJ [] hP hD hk1 hF ht hB
                    try dsimp only at hw
                    obtain ⟨rfl, e_79⟩ := hw
                    replace e_79 := e_79.symm
                    subst e_79
                    have hP : va_P D vwCl (wB kA B) H := hP
                    have hD : va_D A (wB kA B) := hD
                    refine lv_iconst (v := nI 2) hx hb dL_isSo_282 (by decide) ?_
                    have jn_293 : ∀ (cb : Nat) (_ : True), (cb = cB (nn (B.1 k) 0)) → ∀ (H : Heap) (locs : List Loc) (ls : Array Slot), va_P D vwCl (wB kA B) H → va_D A (wB kA B) → va_S A s.heap H locs → lv_has ls 18 [(15, .int (nI u9)), (14, .int (nI q9)), (13, .int (nI i)), (12, .int (nI tw)), (11, .int (nI at9)), (10, .int (nI gd)), (9, .int (nI (nsS (B.1 k)))), (4, .int (nI (nn (B.1 k) 2))), (3, .int (nI (nn (B.1 k) 6))), (2, .int (nI (nn (B.1 k) 1))), (0, .ref be), (1, .int (nI k))] → W p l e ({ frames := 4, cells := 0, slots := 0, locals := 90 }) s m args below meth c H locs 0 0 (MQ below (va_Qi (fun r w => w = (wB kA B) ∧ (r = nI 1)) (fB D (tyL kA) A) A) args s 0 0 A) (F0 m 293 ls [.int (nI cb), .int (nI (3 + u9)), .int (nI (q9 + 10))]) := by
                      clear hP hD hS hl
                      intro cb _ hcb H locs ls hP hD hS hl
                      have hce : E (i + 1) = q9 + 10 + (3 + u9) * cb := by rw [hq6, Nat.add_comm 3 u9, hcb]
                      refine lv_imul hx hb dL_isSo_293 ?_
                      rw [pk_mul (3 + u9) cb]
                      refine lv_iadd hx hb dL_isSo_294 ?_
                      rw [nI_add (q9 + 10) ((3 + u9) * cb)]
                      refine lv_istore (lv' := [(16, .int (nI (q9 + 10 + ((3 + u9) * cb)))), (15, .int (nI u9)), (14, .int (nI q9)), (13, .int (nI i)), (12, .int (nI tw)), (11, .int (nI at9)), (10, .int (nI gd)), (9, .int (nI (nsS (B.1 k)))), (4, .int (nI (nn (B.1 k) 2))), (3, .int (nI (nn (B.1 k) 6))), (2, .int (nI (nn (B.1 k) 1))), (0, .ref be), (1, .int (nI k))]) hx hb dL_isSo_295 hl (by decide) rfl (fun ls hl => ?_)
                      refine lv_iload hx hb dL_isSo_297 (lv_at hl 2 rfl) ?_
                      refine lv_iload hx hb dL_isSo_299 (lv_at hl 5 rfl) ?_
                      refine lv_icmp_lt (tgt := 395) hx hb dL_isSo_301 (by decide) (fun c301 => False.elim (by rw [qlt (a := q9) (b := at9) (by omega) (by omega)] at c301; omega)) (fun _ => ?_)
                      refine lv_iload hx hb dL_isSo_304 (lv_at hl 1 rfl) ?_
                      refine lv_iconst (v := nI 1) hx hb dL_isSo_306 (by decide) ?_
                      refine lv_icmp_lt (tgt := 395) hx hb dL_isSo_307 (by decide) (fun c307 => False.elim (by rw [qlt (a := u9) (b := 1) (by omega) (by omega)] at c307; omega)) (fun _ => ?_)
                      refine lv_iload hx hb dL_isSo_310 (lv_at hl 1 rfl) ?_
                      refine lv_iconst (v := nI 4) hx hb dL_isSo_312 (by decide) ?_
                      refine lv_icmp_gt (tgt := 395) hx hb dL_isSo_313 (by decide) (fun c313 => False.elim (by rw [qlt (a := 4) (b := u9) (by omega) (by omega)] at c313; omega)) (fun _ => ?_)
                      refine lv_iload hx hb dL_isSo_316 (lv_at hl 0 rfl) ?_
                      refine lv_iload_n hx hb dL_isSo_318 rfl (lv_at hl 9 rfl) ?_
                      refine lv_icmp_gt (tgt := 395) hx hb dL_isSo_319 (by decide) (fun c319 => False.elim (by rw [qlt (a := (nn (B.1 k) 6)) (b := (q9 + 10 + ((3 + u9) * cb))) (by omega) (by omega)] at c319; omega)) (fun _ => ?_)
                      refine lv_aload_n hx hb dL_isSo_322 rfl (lv_at hl 11 rfl) ?_
                      refine lv_iload_n hx hb dL_isSo_323 rfl (lv_at hl 12 rfl) ?_
                      refine lv_iload hx hb dL_isSo_324 (lv_at hl 2 rfl) ?_
                      have hF := chF [] hD hS hA
                      refine va_calli (va_runV (As := [.int (nI k), .int (nI q9)]) (rest := []) ⟨hx, hb, hml, hown, hts⟩ (c_X6_vote_B l D kA z B be k q9 (by first | assumption | omega) (by first | assumption | omega) (by first | assumption | omega) (by first | assumption | omega) _) (cwV 2 hts h_L_isSo_15 rfl rfl rfl (by decide +kernel) ⟨Nat.le_of_ble_eq_true rfl, Nat.le_of_ble_eq_true rfl⟩) (fPvB [] (hbe) hK hP hD hS hG hF) rfl rfl hl.1 rfl (lv_room (Nat.le_of_ble_eq_true rfl)) dL_isSo_326 ⟨Nat.le_of_ble_eq_true rfl, Nat.le_of_ble_eq_true rfl⟩) hS (fun q _ h => hF q h) hF (fun r_80 w1 t H locs ht hvm hw hB hz1 hk1 hS => ?_)
                      obtain ⟨hP, hD⟩ := chJ [] hP hD hk1 hF ht hB
                      try dsimp only at hw
                      obtain ⟨rfl, e_80⟩ := hw
                      have hP : va_P D vwCl (wB kA B) H := hP
                      have hD : va_D A (wB kA B) := hD
                      have hv1 := e_80
                      refine lv_iconst (v := nI 1) hx hb dL_isSo_329 (by decide) ?_
                      refine lv_icmp_ne (tgt := 395) hx hb dL_isSo_330 (by decide) (fun c330 => absurd (hv1.trans hq8) c330) (fun _ => ?_)
                      refine lv_aload_n hx hb dL_isSo_333 rfl (lv_at hl 11 rfl) ?_
                      refine lv_iload_n hx hb dL_isSo_334 rfl (lv_at hl 12 rfl) ?_
                      refine lv_iload hx hb dL_isSo_335 (lv_at hl 2 rfl) ?_
                      refine lv_iconst (v := nI 4) hx hb dL_isSo_337 (by decide) ?_
                      refine lv_iadd hx hb dL_isSo_338 ?_
                      rw [nI_add q9 4]
                      have hF := chF [] hD hS hA
                      refine va_calli (va_runV (As := [.int (nI k), .int (nI (q9 + 4))]) (rest := []) ⟨hx, hb, hml, hown, hts⟩ (c_X6_vote_B l D kA z B be k (q9 + 4) (by first | assumption | omega) (by first | assumption | omega) (by first | assumption | omega) (by first | assumption | omega) _) (cwV 2 hts h_L_isSo_15 rfl rfl rfl (by decide +kernel) ⟨Nat.le_of_ble_eq_true rfl, Nat.le_of_ble_eq_true rfl⟩) (fPvB [] (hbe) hK hP hD hS hG hF) rfl rfl hl.1 rfl (lv_room (Nat.le_of_ble_eq_true rfl)) dL_isSo_339 ⟨Nat.le_of_ble_eq_true rfl, Nat.le_of_ble_eq_true rfl⟩) hS (fun q _ h => hF q h) hF (fun r_81 w1 t H locs ht hvm hw hB hz1 hk1 hS => ?_)
                      obtain ⟨hP, hD⟩ := chJ [] hP hD hk1 hF ht hB
                      try dsimp only at hw
                      obtain ⟨rfl, e_81⟩ := hw
                      have hP : va_P D vwCl (wB kA B) H := hP
                      have hD : va_D A (wB kA B) := hD
                      have hv2 := e_81
                      refine lv_if_ne (tgt := 395) hx hb dL_isSo_342 (by decide) (fun c342 => absurd (hv2.trans hq9) c342) (fun _ => ?_)
                      refine lv_aload_n hx hb dL_isSo_345 rfl (lv_at hl 11 rfl) ?_
                      refine lv_iload_n hx hb dL_isSo_346 rfl (lv_at hl 12 rfl) ?_
                      refine lv_iload hx hb dL_isSo_347 (lv_at hl 2 rfl) ?_
                      refine lv_bipush (v := nI 9) hx hb dL_isSo_349 (by decide) ?_
                      refine lv_iadd hx hb dL_isSo_351 ?_
                      rw [nI_add q9 9]
                      have hF := chF [] hD hS hA
                      refine va_calli (va_runV (As := [.int (nI k), .int (nI (q9 + 9))]) (rest := []) ⟨hx, hb, hml, hown, hts⟩ (c_X6_vote_B l D kA z B be k (q9 + 9) (by first | assumption | omega) (by first | assumption | omega) (by first | assumption | omega) (by first | assumption | omega) _) (cwV 2 hts h_L_isSo_15 rfl rfl rfl (by decide +kernel) ⟨Nat.le_of_ble_eq_true rfl, Nat.le_of_ble_eq_true rfl⟩) (fPvB [] (hbe) hK hP hD hS hG hF) rfl rfl hl.1 rfl (lv_room (Nat.le_of_ble_eq_true rfl)) dL_isSo_352 ⟨Nat.le_of_ble_eq_true rfl, Nat.le_of_ble_eq_true rfl⟩) hS (fun q _ h => hF q h) hF (fun r_82 w1 t H locs ht hvm hw hB hz1 hk1 hS => ?_)
                      obtain ⟨hP, hD⟩ := chJ [] hP hD hk1 hF ht hB
                      try dsimp only at hw
                      obtain ⟨rfl, e_82⟩ := hw
                      have hP : va_P D vwCl (wB kA B) H := hP
                      have hD : va_D A (wB kA B) := hD
                      have hv3 := e_82
                      refine lv_iconst (v := nI 1) hx hb dL_isSo_355 (by decide) ?_
                      refine lv_icmp_ne (tgt := 395) hx hb dL_isSo_356 (by decide) (fun c356 => absurd (hv3.trans hq10) c356) (fun _ => ?_)
                      refine lv_aload_n hx hb dL_isSo_359 rfl (lv_at hl 11 rfl) ?_
                      refine lv_iload_n hx hb dL_isSo_360 rfl (lv_at hl 12 rfl) ?_
                      refine lv_iload hx hb dL_isSo_361 (lv_at hl 3 rfl) ?_
                      refine lv_iconst (v := nI 4) hx hb dL_isSo_363 (by decide) ?_
                      refine lv_iload hx hb dL_isSo_364 (lv_at hl 1 rfl) ?_
                      refine lv_iadd hx hb dL_isSo_366 ?_
                      rw [nI_add 4 u9]
                      have hF := chF [] hD hS hA
                      refine va_calli (va_runV (As := [.int (nI k), .int (nI i), .int (nI (4 + u9))]) (rest := []) ⟨hx, hb, hml, hown, hts⟩ (c_X6_ofSector_B l D kA z B be k i (4 + u9) (by first | assumption | omega) (by first | assumption | omega) (by first | assumption | omega) (by first | assumption | omega) (by first | assumption | omega) _) (cwV 3 hts h_L_isSo_14 rfl rfl rfl (by decide +kernel) ⟨Nat.le_of_ble_eq_true rfl, Nat.le_of_ble_eq_true rfl⟩) (fPvB [] (hbe) hK hP hD hS hG hF) rfl rfl hl.1 rfl (lv_room (Nat.le_of_ble_eq_true rfl)) dL_isSo_367 ⟨Nat.le_of_ble_eq_true rfl, Nat.le_of_ble_eq_true rfl⟩) hS (fun q _ h => hF q h) hF (fun r_83 w1 t H locs ht hvm hw hB hz1 hk1 hS => ?_)
                      obtain ⟨hP, hD⟩ := chJ [] hP hD hk1 hF ht hB
                      try dsimp only at hw
                      obtain ⟨rfl, e_83⟩ := hw
                      have hP : va_P D vwCl (wB kA B) H := hP
                      have hD : va_D A (wB kA B) := hD
                      have hv4 := e_83
                      refine lv_iconst (v := -1) hx hb dL_isSo_370 (by decide) ?_
                      refine lv_icmp_lt (tgt := 395) hx hb dL_isSo_371 (by decide) (fun c371 => absurd c371 (by rw [hv4, show oSe (B.1 k) i (4 + u9) = (vS (B.1 k)) (i * 9 + 5 + (u9 - 1)) from congrArg (vS (B.1 k)) (show i * 9 + (4 + u9) = i * 9 + 5 + (u9 - 1) by omega)]; exact bQ_ge (hq12 (u9 - 1) (by omega)))) (fun _ => ?_)
                      refine lv_iload hx hb dL_isSo_374 (lv_at hl 1 rfl) ?_
                      have jn_397 : ∀  (_ : True), ∀ (H : Heap) (locs : List Loc) (ls : Array Slot), va_P D vwCl (wB kA B) H → va_D A (wB kA B) → va_S A s.heap H locs → lv_has ls 18 [(16, .int (nI (q9 + 10 + ((3 + u9) * cb)))), (15, .int (nI u9)), (14, .int (nI q9)), (13, .int (nI i)), (12, .int (nI tw)), (11, .int (nI at9)), (10, .int (nI gd)), (9, .int (nI (nsS (B.1 k)))), (4, .int (nI (nn (B.1 k) 2))), (3, .int (nI (nn (B.1 k) 6))), (2, .int (nI (nn (B.1 k) 1))), (0, .ref be), (1, .int (nI k))] → W p l e ({ frames := 4, cells := 0, slots := 0, locals := 90 }) s m args below meth c H locs 0 0 (MQ below (va_Qi (fun r w => w = (wB kA B) ∧ (r = nI 1)) (fB D (tyL kA) A) A) args s 0 0 A) (F0 m 397 ls []) := by
                        clear hP hD hS hl
                        intro  _  H locs ls hP hD hS hl
                        refine lv_iload hx hb dL_isSo_397 (lv_at hl 0 rfl) ?_
                        refine lv_istore (lv' := [(11, .int (nI (q9 + 10 + ((3 + u9) * cb)))), (16, .int (nI (q9 + 10 + ((3 + u9) * cb)))), (15, .int (nI u9)), (14, .int (nI q9)), (13, .int (nI i)), (12, .int (nI tw)), (10, .int (nI gd)), (9, .int (nI (nsS (B.1 k)))), (4, .int (nI (nn (B.1 k) 2))), (3, .int (nI (nn (B.1 k) 6))), (2, .int (nI (nn (B.1 k) 1))), (0, .ref be), (1, .int (nI k))]) hx hb dL_isSo_399 hl (by decide) rfl (fun ls hl => ?_)
                        refine lv_iload hx hb dL_isSo_401 (lv_at hl 6 rfl) ?_
                        refine lv_aload_n hx hb dL_isSo_403 rfl (lv_at hl 11 rfl) ?_
                        refine lv_iload_n hx hb dL_isSo_404 rfl (lv_at hl 12 rfl) ?_
                        refine lv_iload hx hb dL_isSo_405 (lv_at hl 4 rfl) ?_
                        refine lv_iconst (v := nI 3) hx hb dL_isSo_407 (by decide) ?_
                        have hF := chF [] hD hS hA
                        refine va_calli (va_runV (As := [.int (nI k), .int (nI i), .int (nI 3)]) (rest := [.int (nI gd)]) ⟨hx, hb, hml, hown, hts⟩ (c_X6_ofSector_B l D kA z B be k i 3 (by first | assumption | omega) (by first | assumption | omega) (by first | assumption | omega) (by first | assumption | omega) (by first | assumption | omega) _) (cwV 3 hts h_L_isSo_14 rfl rfl rfl (by decide +kernel) ⟨Nat.le_of_ble_eq_true rfl, Nat.le_of_ble_eq_true rfl⟩) (fPvB [] (hbe) hK hP hD hS hG hF) rfl rfl hl.1 rfl (lv_room (Nat.le_of_ble_eq_true rfl)) dL_isSo_408 ⟨Nat.le_of_ble_eq_true rfl, Nat.le_of_ble_eq_true rfl⟩) hS (fun q _ h => hF q h) hF (fun r_84 w1 t H locs ht hvm hw hB hz1 hk1 hS => ?_)
                        obtain ⟨hP, hD⟩ := chJ [] hP hD hk1 hF ht hB
                        try dsimp only at hw
                        obtain ⟨rfl, e_84⟩ := hw
                        have hP : va_P D vwCl (wB kA B) H := hP
                        have hD : va_D A (wB kA B) := hD
                        refine W.eq (g2 := F0 m 411 ls [.int (nI b9), .int (nI gd)]) (by rw [show r_84 = nI b9 from (e_84).trans hq11]) ?_
                        refine lv_iadd hx hb dL_isSo_411 ?_
                        rw [nI_add gd b9]
                        refine lv_istore (lv' := [(10, .int (nI (gd + b9))), (11, .int (nI (q9 + 10 + ((3 + u9) * cb)))), (16, .int (nI (q9 + 10 + ((3 + u9) * cb)))), (15, .int (nI u9)), (14, .int (nI q9)), (13, .int (nI i)), (12, .int (nI tw)), (9, .int (nI (nsS (B.1 k)))), (4, .int (nI (nn (B.1 k) 2))), (3, .int (nI (nn (B.1 k) 6))), (2, .int (nI (nn (B.1 k) 1))), (0, .ref be), (1, .int (nI k))]) hx hb dL_isSo_412 hl (by decide) rfl (fun ls hl => ?_)
                        refine lv_iconst (v := nI 0) hx hb dL_isSo_414 (by decide) ?_
                        refine lv_istore (lv' := [(17, .int (nI 0)), (10, .int (nI (gd + b9))), (11, .int (nI (q9 + 10 + ((3 + u9) * cb)))), (16, .int (nI (q9 + 10 + ((3 + u9) * cb)))), (15, .int (nI u9)), (14, .int (nI q9)), (13, .int (nI i)), (12, .int (nI tw)), (9, .int (nI (nsS (B.1 k)))), (4, .int (nI (nn (B.1 k) 2))), (3, .int (nI (nn (B.1 k) 6))), (2, .int (nI (nn (B.1 k) 1))), (0, .ref be), (1, .int (nI k))]) hx hb dL_isSo_415 hl (by decide) rfl (fun ls hl => ?_)
                        have lp_417 : ∀ (n_417 : Nat) (j : Nat) (tv : Nat), i - j < n_417 → (j ≤ i) → (tv ≤ 1) → (tv = 1 ↔ isTw (vS (B.1 k)) i ∨ ∃ x, x < j ∧ (vS (B.1 k)) (x * 9 + 1) = (vS (B.1 k)) (i * 9 + 1)) → ∀ (H : Heap) (locs : List Loc) (ls : Array Slot), va_P D vwCl (wB kA B) H → va_D A (wB kA B) → va_S A s.heap H locs → lv_has ls 18 [(17, .int (nI j)), (12, .int (nI tv)), (10, .int (nI (gd + b9))), (11, .int (nI (q9 + 10 + ((3 + u9) * cb)))), (16, .int (nI (q9 + 10 + ((3 + u9) * cb)))), (15, .int (nI u9)), (14, .int (nI q9)), (13, .int (nI i)), (9, .int (nI (nsS (B.1 k)))), (4, .int (nI (nn (B.1 k) 2))), (3, .int (nI (nn (B.1 k) 6))), (2, .int (nI (nn (B.1 k) 1))), (0, .ref be), (1, .int (nI k))] → W p l e ({ frames := 4, cells := 0, slots := 0, locals := 90 }) s m args below meth c H locs 0 0 (MQ below (va_Qi (fun r w => w = (wB kA B) ∧ (r = nI 1)) (fB D (tyL kA) A) A) args s 0 0 A) (F0 m 417 ls []) := by
                          clear hP hD hS hl
                          intro n_417
                          induction n_417 with
                          | zero =>
                            intro j tv hm_417 hj1 htv1 htv2
                            exact absurd hm_417 (by omega)
                          | succ n_417 ih_417 =>
                            intro j tv hm_417 hj1 htv1 htv2 H locs ls hP hD hS hl
                            refine lv_iload hx hb dL_isSo_417 (lv_at hl 0 rfl) ?_
                            refine lv_iload hx hb dL_isSo_419 (lv_at hl 7 rfl) ?_
                            refine lv_icmp_ge (tgt := 459) hx hb dL_isSo_421 (by decide) (fun c421 => ?_) (fun c421 => ?_)
                            ·
                              rw [qle (a := i) (b := j) (by omega) (by omega)] at c421
                              refine lv_iinc (v := nI (i + 1)) (lv' := [(13, .int (nI (i + 1))), (17, .int (nI j)), (12, .int (nI tv)), (10, .int (nI (gd + b9))), (11, .int (nI (q9 + 10 + ((3 + u9) * cb)))), (16, .int (nI (q9 + 10 + ((3 + u9) * cb)))), (15, .int (nI u9)), (14, .int (nI q9)), (9, .int (nI (nsS (B.1 k)))), (4, .int (nI (nn (B.1 k) 2))), (3, .int (nI (nn (B.1 k) 6))), (2, .int (nI (nn (B.1 k) 1))), (0, .ref be), (1, .int (nI k))]) hx hb dL_isSo_459 hl (k := 7) rfl (nI_add i 1) (by decide) rfl (fun ls hl => ?_)
                              refine lv_goto (tgt := 240) hx hb dL_isSo_462 (by decide) ?_
                              exact ih_240 (i + 1) (gd + b9) (q9 + 10 + ((3 + u9) * cb)) tv (by omega) (by first | assumption | omega | rfl) (by rw [hgd]; show _ = cntG _ i + _; rw [show (vS (B.1 k)) (i * 9 + 3) = nI b9 from hq11]; rcases (show b9 = 0 ∨ b9 = 1 by omega) with rfl | rfl <;> rfl) hce.symm (by first | assumption | omega | rfl) (by rw [htv2, isTw_s, show j = i from by omega]) _ _ _ hP hD hS (lv_sub hl [0, 2, 4, 3, 8, 9, 10, 11, 12, 13] rfl)
                            ·
                              rw [qle (a := i) (b := j) (by omega) (by omega)] at c421
                              refine lv_iload hx hb dL_isSo_424 (lv_at hl 1 rfl) ?_
                              refine lv_aload_n hx hb dL_isSo_426 rfl (lv_at hl 12 rfl) ?_
                              refine lv_iload_n hx hb dL_isSo_427 rfl (lv_at hl 13 rfl) ?_
                              refine lv_iload hx hb dL_isSo_428 (lv_at hl 0 rfl) ?_
                              refine lv_iconst (v := nI 1) hx hb dL_isSo_430 (by decide) ?_
                              have hF := chF [] hD hS hA
                              refine va_calli (va_runV (As := [.int (nI k), .int (nI j), .int (nI 1)]) (rest := [.int (nI tv)]) ⟨hx, hb, hml, hown, hts⟩ (c_X6_ofSector_B l D kA z B be k j 1 (by first | assumption | omega) (by first | assumption | omega) (by first | assumption | omega) (by first | assumption | omega) (by first | assumption | omega) _) (cwV 3 hts h_L_isSo_14 rfl rfl rfl (by decide +kernel) ⟨Nat.le_of_ble_eq_true rfl, Nat.le_of_ble_eq_true rfl⟩) (fPvB [] (hbe) hK hP hD hS hG hF) rfl rfl hl.1 rfl (lv_room (Nat.le_of_ble_eq_true rfl)) dL_isSo_431 ⟨Nat.le_of_ble_eq_true rfl, Nat.le_of_ble_eq_true rfl⟩) hS (fun q _ h => hF q h) hF (fun r_85 w1 t H locs ht hvm hw hB hz1 hk1 hS => ?_)
                              obtain ⟨hP, hD⟩ := chJ [] hP hD hk1 hF ht hB
                              try dsimp only at hw
                              obtain ⟨rfl, e_85⟩ := hw
                              have hP : va_P D vwCl (wB kA B) H := hP
                              have hD : va_D A (wB kA B) := hD
                              have hw9 := e_85
                              refine lv_aload_n hx hb dL_isSo_434 rfl (lv_at hl 12 rfl) ?_
                              refine lv_iload_n hx hb dL_isSo_435 rfl (lv_at hl 13 rfl) ?_
                              refine lv_iload hx hb dL_isSo_436 (lv_at hl 7 rfl) ?_
                              refine lv_iconst (v := nI 1) hx hb dL_isSo_438 (by decide) ?_
                              have hF := chF [] hD hS hA
                              refine va_calli (va_runV (As := [.int (nI k), .int (nI i), .int (nI 1)]) (rest := [.int r_85, .int (nI tv)]) ⟨hx, hb, hml, hown, hts⟩ (c_X6_ofSector_B l D kA z B be k i 1 (by first | assumption | omega) (by first | assumption | omega) (by first | assumption | omega) (by first | assumption | omega) (by first | assumption | omega) _) (cwV 3 hts h_L_isSo_14 rfl rfl rfl (by decide +kernel) ⟨Nat.le_of_ble_eq_true rfl, Nat.le_of_ble_eq_true rfl⟩) (fPvB [] (hbe) hK hP hD hS hG hF) rfl rfl hl.1 rfl (lv_room (Nat.le_of_ble_eq_true rfl)) dL_isSo_439 ⟨Nat.le_of_ble_eq_true rfl, Nat.le_of_ble_eq_true rfl⟩) hS (fun q _ h => hF q h) hF (fun r_86 w1 t H locs ht hvm hw hB hz1 hk1 hS => ?_)
                              obtain ⟨hP, hD⟩ := chJ [] hP hD hk1 hF ht hB
                              try dsimp only at hw
                              obtain ⟨rfl, e_86⟩ := hw
                              have hP : va_P D vwCl (wB kA B) H := hP
                              have hD : va_D A (wB kA B) := hD
                              have hw8 := e_86
                              refine lv_icmp_ne (tgt := 449) hx hb dL_isSo_442 (by decide) (fun c442 => ?_) (fun c442 => ?_)
                              ·
                                refine lv_iconst (v := nI 0) hx hb dL_isSo_449 (by decide) ?_
                                refine lv_ior hx hb dL_isSo_450 ?_
                                refine W.eq (g2 := F0 m 451 ls [.int (nI (max tv 0))]) (by rw [or01 htv1 (by decide)]) ?_
                                refine lv_istore (lv' := [(12, .int (nI (max tv 0))), (17, .int (nI j)), (10, .int (nI (gd + b9))), (11, .int (nI (q9 + 10 + ((3 + u9) * cb)))), (16, .int (nI (q9 + 10 + ((3 + u9) * cb)))), (15, .int (nI u9)), (14, .int (nI q9)), (13, .int (nI i)), (9, .int (nI (nsS (B.1 k)))), (4, .int (nI (nn (B.1 k) 2))), (3, .int (nI (nn (B.1 k) 6))), (2, .int (nI (nn (B.1 k) 1))), (0, .ref be), (1, .int (nI k))]) hx hb dL_isSo_451 hl (by decide) rfl (fun ls hl => ?_)
                                refine lv_iinc (v := nI (j + 1)) (lv' := [(17, .int (nI (j + 1))), (12, .int (nI (max tv 0))), (10, .int (nI (gd + b9))), (11, .int (nI (q9 + 10 + ((3 + u9) * cb)))), (16, .int (nI (q9 + 10 + ((3 + u9) * cb)))), (15, .int (nI u9)), (14, .int (nI q9)), (13, .int (nI i)), (9, .int (nI (nsS (B.1 k)))), (4, .int (nI (nn (B.1 k) 2))), (3, .int (nI (nn (B.1 k) 6))), (2, .int (nI (nn (B.1 k) 1))), (0, .ref be), (1, .int (nI k))]) hx hb dL_isSo_453 hl (k := 1) rfl (nI_add j 1) (by decide) rfl (fun ls hl => ?_)
                                refine lv_goto (tgt := 417) hx hb dL_isSo_456 (by decide) ?_
                                exact ih_417 (j + 1) (max tv 0) (by omega) (by first | assumption | omega | rfl) (by first | assumption | omega | rfl) (by rw [ex_s (Q := fun x => (vS (B.1 k)) (x * 9 + 1) = (vS (B.1 k)) (i * 9 + 1)), ← or_assoc, ← htv2]; have hw1 : (vS (B.1 k)) (j * 9 + 1) = _ := hw9.symm; have hw2 : (vS (B.1 k)) (i * 9 + 1) = _ := hw8.symm; rw [hw1, hw2]; exact ⟨fun h => Or.inl (by omega), fun h => h.elim (fun h => by omega) (fun h => absurd h c442)⟩) _ _ _ hP hD hS (lv_sub hl [0, 1, 2, 3, 4, 5, 6, 7, 8, 9, 10, 11, 12, 13] rfl)
                              ·
                                refine lv_iconst (v := nI 1) hx hb dL_isSo_445 (by decide) ?_
                                refine lv_goto (tgt := 450) hx hb dL_isSo_446 (by decide) ?_
                                refine lv_ior hx hb dL_isSo_450 ?_
                                refine W.eq (g2 := F0 m 451 ls [.int (nI (max tv 1))]) (by rw [or01 htv1 (by decide)]) ?_
                                refine lv_istore (lv' := [(12, .int (nI (max tv 1))), (17, .int (nI j)), (10, .int (nI (gd + b9))), (11, .int (nI (q9 + 10 + ((3 + u9) * cb)))), (16, .int (nI (q9 + 10 + ((3 + u9) * cb)))), (15, .int (nI u9)), (14, .int (nI q9)), (13, .int (nI i)), (9, .int (nI (nsS (B.1 k)))), (4, .int (nI (nn (B.1 k) 2))), (3, .int (nI (nn (B.1 k) 6))), (2, .int (nI (nn (B.1 k) 1))), (0, .ref be), (1, .int (nI k))]) hx hb dL_isSo_451 hl (by decide) rfl (fun ls hl => ?_)
                                refine lv_iinc (v := nI (j + 1)) (lv' := [(17, .int (nI (j + 1))), (12, .int (nI (max tv 1))), (10, .int (nI (gd + b9))), (11, .int (nI (q9 + 10 + ((3 + u9) * cb)))), (16, .int (nI (q9 + 10 + ((3 + u9) * cb)))), (15, .int (nI u9)), (14, .int (nI q9)), (13, .int (nI i)), (9, .int (nI (nsS (B.1 k)))), (4, .int (nI (nn (B.1 k) 2))), (3, .int (nI (nn (B.1 k) 6))), (2, .int (nI (nn (B.1 k) 1))), (0, .ref be), (1, .int (nI k))]) hx hb dL_isSo_453 hl (k := 1) rfl (nI_add j 1) (by decide) rfl (fun ls hl => ?_)
                                refine lv_goto (tgt := 417) hx hb dL_isSo_456 (by decide) ?_
                                exact ih_417 (j + 1) (max tv 1) (by omega) (by first | assumption | omega | rfl) (by first | assumption | omega | rfl) (by rw [ex_s (Q := fun x => (vS (B.1 k)) (x * 9 + 1) = (vS (B.1 k)) (i * 9 + 1)), ← or_assoc, ← htv2]; have hw1 : (vS (B.1 k)) (j * 9 + 1) = _ := hw9.symm; have hw2 : (vS (B.1 k)) (i * 9 + 1) = _ := hw8.symm; rw [hw1, hw2]; exact ⟨fun _ => Or.inr c442, fun _ => by omega⟩) _ _ _ hP hD hS (lv_sub hl [0, 1, 2, 3, 4, 5, 6, 7, 8, 9, 10, 11, 12, 13] rfl)
                        exact lp_417 (i + 1) 0 tw (by omega) (by first | assumption | omega | rfl) (by first | assumption | omega | rfl) (by rw [htw2]; exact ⟨Or.inl, fun h => h.elim id (fun ⟨x, h1, _⟩ => absurd h1 (by omega))⟩) _ _ _ hP hD hS (lv_sub hl [0, 7, 1, 2, 3, 4, 5, 6, 8, 9, 10, 11, 12, 13] rfl)
                      refine lv_iconst (v := nI 4) hx hb dL_isSo_376 (by decide) ?_
                      refine lv_icmp_ge (tgt := 397) hx hb dL_isSo_377 (by decide) (fun c377 => ?_) (fun c377 => ?_)
                      ·
                        rw [qle (a := 4) (b := u9) (by omega) (by omega)] at c377
                        exact jn_397  trivial  _ _ _ hP hD hS (lv_sub hl [0, 1, 2, 3, 4, 5, 6, 7, 8, 9, 10, 11, 12] rfl)
                      ·
                        rw [qle (a := 4) (b := u9) (by omega) (by omega)] at c377
                        refine lv_aload_n hx hb dL_isSo_380 rfl (lv_at hl 11 rfl) ?_
                        refine lv_iload_n hx hb dL_isSo_381 rfl (lv_at hl 12 rfl) ?_
                        refine lv_iload hx hb dL_isSo_382 (lv_at hl 3 rfl) ?_
                        refine lv_iconst (v := nI 5) hx hb dL_isSo_384 (by decide) ?_
                        refine lv_iload hx hb dL_isSo_385 (lv_at hl 1 rfl) ?_
                        refine lv_iadd hx hb dL_isSo_387 ?_
                        rw [nI_add 5 u9]
                        have hF := chF [] hD hS hA
                        refine va_calli (va_runV (As := [.int (nI k), .int (nI i), .int (nI (5 + u9))]) (rest := []) ⟨hx, hb, hml, hown, hts⟩ (c_X6_ofSector_B l D kA z B be k i (5 + u9) (by first | assumption | omega) (by first | assumption | omega) (by first | assumption | omega) (by first | assumption | omega) (by first | assumption | omega) _) (cwV 3 hts h_L_isSo_14 rfl rfl rfl (by decide +kernel) ⟨Nat.le_of_ble_eq_true rfl, Nat.le_of_ble_eq_true rfl⟩) (fPvB [] (hbe) hK hP hD hS hG hF) rfl rfl hl.1 rfl (lv_room (Nat.le_of_ble_eq_true rfl)) dL_isSo_388 ⟨Nat.le_of_ble_eq_true rfl, Nat.le_of_ble_eq_true rfl⟩) hS (fun q _ h => hF q h) hF (fun r_87 w1 t H locs ht hvm hw hB hz1 hk1 hS => ?_)
                        obtain ⟨hP, hD⟩ := chJ [] hP hD hk1 hF ht hB
                        try dsimp only at hw
                        obtain ⟨rfl, e_87⟩ := hw
                        have hP : va_P D vwCl (wB kA B) H := hP
                        have hD : va_D A (wB kA B) := hD
                        have hv5 := e_87
                        refine lv_iconst (v := -1) hx hb dL_isSo_391 (by decide) ?_
                        refine lv_icmp_eq (tgt := 397) hx hb dL_isSo_392 (by decide) (fun _ => ?_) (fun c392 => absurd (by rw [hv5, show oSe (B.1 k) i (5 + u9) = (vS (B.1 k)) (i * 9 + 5 + u9) from congrArg (vS (B.1 k)) (show i * 9 + (5 + u9) = i * 9 + 5 + u9 by omega)]; exact hq13 u9 (Nat.le_refl _) (by omega)) c392)
                        exact jn_397  trivial  _ _ _ hP hD hS (lv_sub hl [0, 1, 2, 3, 4, 5, 6, 7, 8, 9, 10, 11, 12] rfl)
                    refine lv_icmp_ne (tgt := 291) hx hb dL_isSo_283 (by decide) (fun c283 => ?_) (fun c283 => ?_)
                    ·
                      rw [qeq (a := (nn (B.1 k) 0)) (b := 2) (by omega) (by omega)] at c283
                      refine lv_bipush (v := nI 16) hx hb dL_isSo_291 (by decide) ?_
                      exact jn_293 16 trivial (by first | exact (cB_2 (c := nn (B.1 k) 0) (by omega)).symm | exact (cB_n (c := nn (B.1 k) 0) (by omega)).symm) _ _ _ hP hD hS (lv_sub hl [0, 1, 2, 3, 4, 5, 6, 7, 8, 9, 10, 11] rfl)
                    ·
                      rw [qeq (a := (nn (B.1 k) 0)) (b := 2) (by omega) (by omega)] at c283
                      refine lv_bipush (v := nI 10) hx hb dL_isSo_286 (by decide) ?_
                      refine lv_goto (tgt := 293) hx hb dL_isSo_288 (by decide) ?_
                      exact jn_293 10 trivial (by first | exact (cB_2 (c := nn (B.1 k) 0) (by omega)).symm | exact (cB_n (c := nn (B.1 k) 0) (by omega)).symm) _ _ _ hP hD hS (lv_sub hl [0, 1, 2, 3, 4, 5, 6, 7, 8, 9, 10, 11] rfl)
              exact lp_240 (nsS (B.1 k) + 1) 0 0 0 0 (by omega) (by first | assumption | omega | rfl) rfl hE0.symm (by first | assumption | omega | rfl) (⟨fun h => absurd h (by decide), fun ⟨x, y, h1, h2, _⟩ => absurd h2 (by omega)⟩) _ _ _ hP hD hS (lv_sub hl [0, 1, 2, 3, 4, 8, 9, 10, 11, 12] rfl)
        ·
          rw [qle (a := (nn (B.1 k) 1)) (b := i) (by omega) (by omega)] at c44
          refine lv_aload_n hx hb dL_isSo_47 rfl (lv_at hl 6 rfl) ?_
          refine lv_iload_n hx hb dL_isSo_48 rfl (lv_at hl 7 rfl) ?_
          refine lv_iload hx hb dL_isSo_49 (lv_at hl 0 rfl) ?_
          refine lv_iconst (v := nI 0) hx hb dL_isSo_51 (by decide) ?_
          have hF := chF [] hD hS hA
          refine va_calli (va_runV (As := [.int (nI k), .int (nI i), .int (nI 0)]) (rest := []) ⟨hx, hb, hml, hown, hts⟩ (c_X6_turn_lB l D kA z B be k i (by first | assumption | omega) (by first | assumption | omega) (by first | assumption | omega) (by first | assumption | omega) _) (cwV 3 hts h_L_isSo_16 rfl rfl rfl (by decide +kernel) ⟨Nat.le_of_ble_eq_true rfl, Nat.le_of_ble_eq_true rfl⟩) (fPvB [] (hbe) hK hP hD hS hG hF) rfl rfl hl.1 rfl (lv_room (Nat.le_of_ble_eq_true rfl)) dL_isSo_52 ⟨Nat.le_of_ble_eq_true rfl, Nat.le_of_ble_eq_true rfl⟩) hS (fun q _ h => hF q h) hF (fun r_88 w1 t H locs ht hvm hw hB hz1 hk1 hS => ?_)
          obtain ⟨hP, hD⟩ := chJ [] hP hD hk1 hF ht hB
          try dsimp only at hw
          obtain ⟨rfl, e_88⟩ := hw
          replace e_88 := e_88.symm
          subst e_88
          have hP : va_P D vwCl (wB kA B) H := hP
          have hD : va_D A (wB kA B) := hD
          refine lv_istore (lv' := [(8, .int (nI (lenF (B.1 k) i))), (7, .int (nI i)), (6, .int (nI lg9)), (5, .int (nI sh9)), (4, .int (nI (nn (B.1 k) 2))), (3, .int (nI (nn (B.1 k) 6))), (2, .int (nI (nn (B.1 k) 1))), (0, .ref be), (1, .int (nI k))]) hx hb dL_isSo_55 hl (by decide) rfl (fun ls hl => ?_)
          refine lv_iload hx hb dL_isSo_57 (lv_at hl 3 rfl) ?_
          refine lv_iload hx hb dL_isSo_59 (lv_at hl 0 rfl) ?_
          refine va_mmin hx hb (by rw [hml]; exact hl.1.symm) hown (wAt hts 31 (w := .methodLink RL 87 Lib.Math.min.name) rfl) (wAt hts 32 (w := .static Lib.Math.min.name) rfl) (wAt hts 11 (w := .initialized "java/lang/Math") rfl) (wAt hts 33 (w := .code Lib.Math.min.name Lib.Math.min.code 2 (some .int)) rfl) (Nat.le_of_ble_eq_true rfl) (Nat.le_of_ble_eq_true rfl) (Nat.le_of_ble_eq_true rfl) (Nat.le_of_ble_eq_true rfl) dL_isSo_61 ?_
          rw [qmin (a := sh9) (b := (lenF (B.1 k) i)) (by omega) (by omega)]
          refine lv_istore (lv' := [(5, .int (nI (min sh9 (lenF (B.1 k) i)))), (8, .int (nI (lenF (B.1 k) i))), (7, .int (nI i)), (6, .int (nI lg9)), (4, .int (nI (nn (B.1 k) 2))), (3, .int (nI (nn (B.1 k) 6))), (2, .int (nI (nn (B.1 k) 1))), (0, .ref be), (1, .int (nI k))]) hx hb dL_isSo_64 hl (by decide) rfl (fun ls hl => ?_)
          refine lv_iload hx hb dL_isSo_66 (lv_at hl 3 rfl) ?_
          refine lv_iload hx hb dL_isSo_68 (lv_at hl 1 rfl) ?_
          refine va_mmax hx hb (by rw [hml]; exact hl.1.symm) hown (wAt hts 34 (w := .methodLink RL 71 Lib.Math.max.name) rfl) (wAt hts 35 (w := .static Lib.Math.max.name) rfl) (wAt hts 11 (w := .initialized "java/lang/Math") rfl) (wAt hts 36 (w := .code Lib.Math.max.name Lib.Math.max.code 2 (some .int)) rfl) (Nat.le_of_ble_eq_true rfl) (Nat.le_of_ble_eq_true rfl) (Nat.le_of_ble_eq_true rfl) (Nat.le_of_ble_eq_true rfl) dL_isSo_70 ?_
          rw [qmax (a := lg9) (b := (lenF (B.1 k) i)) (by omega) (by omega)]
          refine lv_istore (lv' := [(6, .int (nI (max lg9 (lenF (B.1 k) i)))), (5, .int (nI (min sh9 (lenF (B.1 k) i)))), (8, .int (nI (lenF (B.1 k) i))), (7, .int (nI i)), (4, .int (nI (nn (B.1 k) 2))), (3, .int (nI (nn (B.1 k) 6))), (2, .int (nI (nn (B.1 k) 1))), (0, .ref be), (1, .int (nI k))]) hx hb dL_isSo_73 hl (by decide) rfl (fun ls hl => ?_)
          refine lv_iload hx hb dL_isSo_75 (lv_at hl 2 rfl) ?_
          refine lv_sipush (v := nI 400) hx hb dL_isSo_77 (by decide) ?_
          refine lv_icmp_gt (tgt := 111) hx hb dL_isSo_80 (by decide) (fun c80 => False.elim (by rw [qlt (a := 400) (b := (lenF (B.1 k) i)) (by omega) (by omega)] at c80; omega)) (fun _ => ?_)
          refine lv_aload_n hx hb dL_isSo_83 rfl (lv_at hl 7 rfl) ?_
          refine lv_iload_n hx hb dL_isSo_84 rfl (lv_at hl 8 rfl) ?_
          refine lv_iload hx hb dL_isSo_85 (lv_at hl 3 rfl) ?_
          have hF := chF [] hD hS hA
          refine va_calld (va_runV (As := [.int (nI k), .int (nI i)]) (rest := []) ⟨hx, hb, hml, hown, hts⟩ (c_X6_period_B l D kA z B be k i (by first | assumption | omega) (by first | assumption | omega) (by first | assumption | omega) (by first | assumption | omega) _) (cwV 2 hts h_L_isSo_17 rfl rfl rfl (by decide +kernel) ⟨Nat.le_of_ble_eq_true rfl, Nat.le_of_ble_eq_true rfl⟩) (fPvB [] (hbe) hK hP hD hS hG hF) rfl rfl hl.1 rfl (lv_room (Nat.le_of_ble_eq_true rfl)) dL_isSo_87 ⟨Nat.le_of_ble_eq_true rfl, Nat.le_of_ble_eq_true rfl⟩) hS (fun q _ h => hF q h) hF (fun r_89 w1 t H locs ht hvm hw hB hz1 hk1 hS => ?_)
          obtain ⟨hP, hD⟩ := chJ [] hP hD hk1 hF ht hB
          try dsimp only at hw
          obtain ⟨rfl, e_89⟩ := hw
          have hP : va_P D vwCl (wB kA B) H := hP
          have hD : va_D A (wB kA B) := hD
          have hp1 := e_89
          refine lv_ldc2d hx hb hown (wAt hts 40 (w := .constantDouble RL 105 (4618441417868443648)) rfl) dL_isSo_90 ?_
          refine lv_dcmp hx hb dL_isSo_93 ?_
          refine lv_if_lt (tgt := 111) hx hb dL_isSo_94 (by decide) (fun c94 => absurd c94 (cmpG2 hp1.2.2.1)) (fun _ => ?_)
          refine lv_aload_n hx hb dL_isSo_97 rfl (lv_at hl 7 rfl) ?_
          refine lv_iload_n hx hb dL_isSo_98 rfl (lv_at hl 8 rfl) ?_
          refine lv_iload hx hb dL_isSo_99 (lv_at hl 3 rfl) ?_
          have hF := chF [] hD hS hA
          refine va_calld (va_runV (As := [.int (nI k), .int (nI i)]) (rest := []) ⟨hx, hb, hml, hown, hts⟩ (c_X6_period_B l D kA z B be k i (by first | assumption | omega) (by first | assumption | omega) (by first | assumption | omega) (by first | assumption | omega) _) (cwV 2 hts h_L_isSo_17 rfl rfl rfl (by decide +kernel) ⟨Nat.le_of_ble_eq_true rfl, Nat.le_of_ble_eq_true rfl⟩) (fPvB [] (hbe) hK hP hD hS hG hF) rfl rfl hl.1 rfl (lv_room (Nat.le_of_ble_eq_true rfl)) dL_isSo_101 ⟨Nat.le_of_ble_eq_true rfl, Nat.le_of_ble_eq_true rfl⟩) hS (fun q _ h => hF q h) hF (fun r_90 w1 t H locs ht hvm hw hB hz1 hk1 hS => ?_)
          obtain ⟨hP, hD⟩ := chJ [] hP hD hk1 hF ht hB
          try dsimp only at hw
          obtain ⟨rfl, e_90⟩ := hw
          have hP : va_P D vwCl (wB kA B) H := hP
          have hD : va_D A (wB kA B) := hD
          have hp2 := e_90
          refine lv_ldc2d hx hb hown (wAt hts 41 (w := .constantDouble RL 107 (4622382067542392832)) rfl) dL_isSo_104 ?_
          refine lv_dcmp hx hb dL_isSo_107 ?_
          refine lv_if_le (tgt := 113) hx hb dL_isSo_108 (by decide) (fun _ => ?_) (fun c108 => absurd (cmpL2 hp2.2.2.2) c108)
          refine lv_iinc (v := nI (i + 1)) (lv' := [(7, .int (nI (i + 1))), (6, .int (nI (max lg9 (lenF (B.1 k) i)))), (5, .int (nI (min sh9 (lenF (B.1 k) i)))), (8, .int (nI (lenF (B.1 k) i))), (4, .int (nI (nn (B.1 k) 2))), (3, .int (nI (nn (B.1 k) 6))), (2, .int (nI (nn (B.1 k) 1))), (0, .ref be), (1, .int (nI k))]) hx hb dL_isSo_113 hl (k := 3) rfl (nI_add i 1) (by decide) rfl (fun ls hl => ?_)
          refine lv_goto (tgt := 41) hx hb dL_isSo_116 (by decide) ?_
          exact ih_41 (i + 1) (min sh9 (lenF (B.1 k) i)) (max lg9 (lenF (B.1 k) i)) (by omega) (by first | assumption | omega | rfl) (mn_s hsh rfl) (mx_s hlg rfl) _ _ _ hP hD hS (lv_sub hl [0, 1, 2, 4, 5, 6, 7, 8] rfl)
    exact lp_41 (nn (B.1 k) 1 + 1) 0 s0 0 (by omega) (by first | assumption | omega | rfl) rfl rfl _ _ _ hP hD hS (lv_sub hl [0, 1, 2, 3, 4, 5, 6, 7] rfl)
  refine lv_if_ne (tgt := 30) hx hb dL_isSo_23 (by decide) (fun c23 => ?_) (fun c23 => ?_)
  ·
    rw [qz (a := (nn (B.1 k) 1)) (by omega)] at c23
    refine lv_sipush (v := nI 400) hx hb dL_isSo_30 (by decide) ?_
    exact jn_33 400 trivial (by first | rw [if_pos (by omega)] | rw [if_neg (by omega)]) _ _ _ hP hD hS (lv_sub hl [0, 1, 2, 3, 4] rfl)
  ·
    rw [qz (a := (nn (B.1 k) 1)) (by omega)] at c23
    refine lv_iconst (v := nI 0) hx hb dL_isSo_26 (by decide) ?_
    refine lv_goto (tgt := 33) hx hb dL_isSo_27 (by decide) ?_
    exact jn_33 0 trivial (by first | rw [if_pos (by omega)] | rw [if_neg (by omega)]) _ _ _ hP hD hS (lv_sub hl [0, 1, 2, 3, 4] rfl)
