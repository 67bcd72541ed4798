def wq_L_write : List Cond := .codeWith yL_write cL_write 3 none [(0, 123, 126, 59)] :: (([.methodLink RL 22 yL_below, .static yL_below, .initialized RL, .methodLink RL 55 yX6_sector, .instanceMethod yX6_sector, .selects RX6 yX6_sector yX6_sector, .initialized RX6, .classLink RL 59 "java/lang/IllegalStateException", .methodLink RL 53 yX6_write, .instanceMethod yX6_write, .selects RX6 yX6_write yX6_write, .methodLink RL 36 yX6_mark, .instanceMethod yX6_mark, .selects RX6 yX6_mark yX6_mark] : List Cond) ++ (wq_L_below ++ (wq_X6_sector_xB ++ (wq_X6_write_xB ++ (wq_X6_mark_xB ++ ([] : List Cond))))))
theorem gd_L_write : wq_L_write.all goodWord = true := by decide +kernel
theorem h_L_write_0 : GoodIn wq_L_write (va_wsS RL 22 yL_below wq_L_below) := goodIn_app (goodIn_r _ [1, 2, 3] (by decide +kernel) (by decide +kernel)) (goodIn_sub (fun w h => List.mem_cons_of_mem _ (List.mem_append_right _ (List.mem_append_left _ h))) gd_L_below)
theorem h_L_write_1 : GoodIn wq_L_write (wsV RL 55 RX6 yX6_sector wq_X6_sector_xB) := goodIn_app (goodIn_r _ [4, 5, 6, 7] (by decide +kernel) (by decide +kernel)) (goodIn_sub (fun w h => List.mem_cons_of_mem _ (List.mem_append_right _ (List.mem_append_right _ (List.mem_append_left _ h)))) gd_X6_sector_xB)
theorem h_L_write_2 : GoodIn wq_L_write (wsV RL 53 RX6 yX6_write wq_X6_write_xB) := goodIn_app (goodIn_r _ [9, 10, 11, 7] (by decide +kernel) (by decide +kernel)) (goodIn_sub (fun w h => List.mem_cons_of_mem _ (List.mem_append_right _ (List.mem_append_right _ (List.mem_append_right _ (List.mem_append_left _ h))))) gd_X6_write_xB)
theorem h_L_write_3 : GoodIn wq_L_write (wsV RL 36 RX6 yX6_mark wq_X6_mark_xB) := goodIn_app (goodIn_r _ [12, 13, 14, 7] (by decide +kernel) (by decide +kernel)) (goodIn_sub (fun w h => List.mem_cons_of_mem _ (List.mem_append_right _ (List.mem_append_right _ (List.mem_append_right _ (List.mem_append_right _ (List.mem_append_left _ h)))))) gd_X6_mark_xB)
set_option maxHeartbeats 4000000 in
set_option maxRecDepth 100000 in
theorem c_L_write (l : Launch) (D : va_G) (kA : Nat → ClassId) (z : Nat) (hfl : l.stackTraces = false) (B : BS) (be : Nat) (x : Int32) (hbe : B.2 0 = be) (hI : BI B) : mV l D (tyL kA) z yL_write wq_L_write ({ frames := 8, cells := 1, slots := 6, locals := 137 }) [.ref be, .int x] (wB kA B) (fun w => ∃ (B2 : BS), w = (wB kA B2) ∧ (B2.2 0 = be) ∧ (BI B2) ∧ (B2.2 = B.2) ∧ (∀ j, j < 4 → nn (B2.1 j) 3 = nn (B.1 j) 3)) := by
  refine ofWV (cc := cL_write) (maxL := 3) RL rfl (by decide +kernel) rfl (Nat.le_of_ble_eq_true rfl) ?_
  intro p e s m args below meth c A ls htab hE
  obtain ⟨hx, hb, hr, hml, hts, hown, hlocks, hA, hS, hP, hK, hD, hG, hl⟩ := hE
  have hl : lv_has ls 3 [(0, .ref be), (1, .int x)] := hl
  have hH : s.heap = s.heap := rfl
  refine lv_iload_n hx hb dL_write_0 rfl (lv_at hl 1 rfl) ?_
  refine lv_bipush (v := nI 9) hx hb dL_write_1 (by decide) ?_
  have hF := chF0 hS hA
  refine va_calli (va_runS (As := [.int x, .int (nI 9)]) (rest := []) ⟨hx, hb, hml, hown, hts⟩ (c_L_below l D kA z x 9 (by first | assumption | omega) (by first | assumption | omega) _) (va_cwS 2 hts h_L_write_0 rfl rfl rfl (by decide +kernel) ⟨Nat.le_of_ble_eq_true rfl, Nat.le_of_ble_eq_true rfl⟩) (fPs0 hK hS hG hF) rfl rfl hl.1 rfl (lv_room (Nat.le_of_ble_eq_true rfl)) dL_write_3 ⟨Nat.le_of_ble_eq_true rfl, Nat.le_of_ble_eq_true rfl⟩) hS (fun q _ h => hF q h) hF (fun r_1 w1 t H locs ht hvm hw hB hz1 hk1 hS => ?_)
  obtain ⟨hP, hD⟩ := chJ0 hP hD hk1 hF ht hB
  try dsimp only at hw
  obtain ⟨k_1, rfl, e_1, hkq_1⟩ := hw
  rw [List.append_nil] at hP hD
  replace e_1 := e_1.symm
  subst e_1
  have hP : va_P D vwCl (wB kA B) H := hP
  have hD : va_D A (wB kA B) := hD
  have jn_59 : ∀  (_ : True), ∀ (H : Heap) (locs : List Loc) (ls : Array Slot), va_P D vwCl (wB kA B) H → va_D A (wB kA B) → va_S A s.heap H locs → lv_has ls 3 [(0, .ref be), (1, .int x)] → W p l e ({ frames := 8, cells := 1, slots := 6, locals := 137 }) s m args below meth c H locs 0 0 (MQ below (va_Qv (fun w => ∃ (B2 : BS), w = (wB kA B2) ∧ (B2.2 0 = be) ∧ (BI B2) ∧ (B2.2 = B.2) ∧ (∀ j, j < 4 → nn (B2.1 j) 3 = nn (B.1 j) 3)) (fB D (tyL kA) A) A) args s 1 6 A) (F0 m 59 ls []) := by
    clear hP hD hS hl
    intro  _  H locs ls hP hD hS hl
    refine lv_aload_n hx hb dL_write_59 rfl (lv_at hl 0 rfl) ?_
    refine lv_iconst (v := nI 0) hx hb dL_write_60 (by decide) ?_
    refine lv_iload_n hx hb dL_write_61 rfl (lv_at hl 1 rfl) ?_
    refine lv_iconst (v := nI 3) hx hb dL_write_62 (by decide) ?_
    refine lv_ishr hx hb dL_write_63 ?_
    refine lv_iconst (v := nI 5) hx hb dL_write_64 (by decide) ?_
    have hF := chF0 hS hA
    refine va_calli (va_runS (As := [.int (x >>> ((nI 3) &&& 31)), .int (nI 5)]) (rest := [.int (nI 0), .ref be]) ⟨hx, hb, hml, hown, hts⟩ (c_L_below l D kA z (x >>> ((nI 3) &&& 31)) 5 (by first | assumption | omega) (by first | assumption | omega) _) (va_cwS 2 hts h_L_write_0 rfl rfl rfl (by decide +kernel) ⟨Nat.le_of_ble_eq_true rfl, Nat.le_of_ble_eq_true rfl⟩) (fPs0 hK hS hG hF) rfl rfl hl.1 rfl (lv_room (Nat.le_of_ble_eq_true rfl)) dL_write_65 ⟨Nat.le_of_ble_eq_true rfl, Nat.le_of_ble_eq_true rfl⟩) hS (fun q _ h => hF q h) hF (fun r_2 w1 t H locs ht hvm hw hB hz1 hk1 hS => ?_)
    obtain ⟨hP, hD⟩ := chJ0 hP hD hk1 hF ht hB
    try dsimp only at hw
    obtain ⟨k_2, rfl, e_2, hkq_2⟩ := hw
    rw [List.append_nil] at hP hD
    replace e_2 := e_2.symm
    subst e_2
    have hP : va_P D vwCl (wB kA B) H := hP
    have hD : va_D A (wB kA B) := hD
    refine lv_iconst (v := nI 1) hx hb dL_write_68 (by decide) ?_
    refine lv_iload_n hx hb dL_write_69 rfl (lv_at hl 1 rfl) ?_
    refine lv_iconst (v := nI 5) hx hb dL_write_70 (by decide) ?_
    refine lv_ishr hx hb dL_write_71 ?_
    refine lv_iconst (v := nI 2) hx hb dL_write_72 (by decide) ?_
    have hF := chF0 hS hA
    refine va_calli (va_runS (As := [.int (x >>> ((nI 5) &&& 31)), .int (nI 2)]) (rest := [.int (nI 1), .int (nI k_2), .int (nI 0), .ref be]) ⟨hx, hb, hml, hown, hts⟩ (c_L_below l D kA z (x >>> ((nI 5) &&& 31)) 2 (by first | assumption | omega) (by first | assumption | omega) _) (va_cwS 2 hts h_L_write_0 rfl rfl rfl (by decide +kernel) ⟨Nat.le_of_ble_eq_true rfl, Nat.le_of_ble_eq_true rfl⟩) (fPs0 hK hS hG hF) rfl rfl hl.1 rfl (lv_room (Nat.le_of_ble_eq_true rfl)) dL_write_73 ⟨Nat.le_of_ble_eq_true rfl, Nat.le_of_ble_eq_true rfl⟩) hS (fun q _ h => hF q h) hF (fun r_3 w1 t H locs ht hvm hw hB hz1 hk1 hS => ?_)
    obtain ⟨hP, hD⟩ := chJ0 hP hD hk1 hF ht hB
    try dsimp only at hw
    obtain ⟨k_3, rfl, e_3, hkq_3⟩ := hw
    rw [List.append_nil] at hP hD
    replace e_3 := e_3.symm
    subst e_3
    have hP : va_P D vwCl (wB kA B) H := hP
    have hD : va_D A (wB kA B) := hD
    refine lv_iadd hx hb dL_write_76 ?_
    rw [nI_add 1 k_3]
    refine lv_iload_n hx hb dL_write_77 rfl (lv_at hl 1 rfl) ?_
    refine lv_bipush (v := nI 6) hx hb dL_write_78 (by decide) ?_
    refine lv_ishr hx hb dL_write_80 ?_
    refine lv_iconst (v := nI 5) hx hb dL_write_81 (by decide) ?_
    have hF := chF0 hS hA
    refine va_calli (va_runS (As := [.int (x >>> ((nI 6) &&& 31)), .int (nI 5)]) (rest := [.int (nI (1 + k_3)), .int (nI k_2), .int (nI 0), .ref be]) ⟨hx, hb, hml, hown, hts⟩ (c_L_below l D kA z (x >>> ((nI 6) &&& 31)) 5 (by first | assumption | omega) (by first | assumption | omega) _) (va_cwS 2 hts h_L_write_0 rfl rfl rfl (by decide +kernel) ⟨Nat.le_of_ble_eq_true rfl, Nat.le_of_ble_eq_true rfl⟩) (fPs0 hK hS hG hF) rfl rfl hl.1 rfl (lv_room (Nat.le_of_ble_eq_true rfl)) dL_write_82 ⟨Nat.le_of_ble_eq_true rfl, Nat.le_of_ble_eq_true rfl⟩) hS (fun q _ h => hF q h) hF (fun r_4 w1 t H locs ht hvm hw hB hz1 hk1 hS => ?_)
    obtain ⟨hP, hD⟩ := chJ0 hP hD hk1 hF ht hB
    try dsimp only at hw
    obtain ⟨k_4, rfl, e_4, hkq_4⟩ := hw
    rw [List.append_nil] at hP hD
    replace e_4 := e_4.symm
    subst e_4
    have hP : va_P D vwCl (wB kA B) H := hP
    have hD : va_D A (wB kA B) := hD
    refine lv_iload_n hx hb dL_write_85 rfl (lv_at hl 1 rfl) ?_
    refine lv_iconst (v := nI 4) hx hb dL_write_86 (by decide) ?_
    refine lv_ishr hx hb dL_write_87 ?_
    refine lv_iconst (v := nI 3) hx hb dL_write_88 (by decide) ?_
    have hF := chF0 hS hA
    refine va_calli (va_runS (As := [.int (x >>> ((nI 4) &&& 31)), .int (nI 3)]) (rest := [.int (nI k_4), .int (nI (1 + k_3)), .int (nI k_2), .int (nI 0), .ref be]) ⟨hx, hb, hml, hown, hts⟩ (c_L_below l D kA z (x >>> ((nI 4) &&& 31)) 3 (by first | assumption | omega) (by first | assumption | omega) _) (va_cwS 2 hts h_L_write_0 rfl rfl rfl (by decide +kernel) ⟨Nat.le_of_ble_eq_true rfl, Nat.le_of_ble_eq_true rfl⟩) (fPs0 hK hS hG hF) rfl rfl hl.1 rfl (lv_room (Nat.le_of_ble_eq_true rfl)) dL_write_89 ⟨Nat.le_of_ble_eq_true rfl, Nat.le_of_ble_eq_true rfl⟩) hS (fun q _ h => hF q h) hF (fun r_5 w1 t H locs ht hvm hw hB hz1 hk1 hS => ?_)
    obtain ⟨hP, hD⟩ := chJ0 hP hD hk1 hF ht hB
    try dsimp only at hw
    obtain ⟨k_5, rfl, e_5, hkq_5⟩ := hw
    rw [List.append_nil] at hP hD
    replace e_5 := e_5.symm
    subst e_5
    have hP : va_P D vwCl (wB kA B) H := hP
    have hD : va_D A (wB kA B) := hD
    have jn_102 : ∀ (ad9 : Nat) (_ : True), (ad9 ≤ 255) → ∀ (H : Heap) (locs : List Loc) (ls : Array Slot), va_P D vwCl (wB kA B) H → va_D A (wB kA B) → va_S A s.heap H locs → lv_has ls 3 [(0, .ref be), (1, .int x)] → W p l e ({ frames := 8, cells := 1, slots := 6, locals := 137 }) s m args below meth c H locs 0 0 (MQ below (va_Qv (fun w => ∃ (B2 : BS), w = (wB kA B2) ∧ (B2.2 0 = be) ∧ (BI B2) ∧ (B2.2 = B.2) ∧ (∀ j, j < 4 → nn (B2.1 j) 3 = nn (B.1 j) 3)) (fB D (tyL kA) A) A) args s 1 6 A) (F0 m 102 ls [.int (nI ad9), .int (nI k_4), .int (nI (1 + k_3)), .int (nI k_2), .int (nI 0), .ref be]) := by
      clear hP hD hS hl
      intro ad9 _ had H locs ls hP hD hS hl
      refine lv_iadd hx hb dL_write_102 ?_
      rw [nI_add k_4 ad9]
      refine lv_iload_n hx hb dL_write_103 rfl (lv_at hl 1 rfl) ?_
      refine lv_bipush (v := nI 7) hx hb dL_write_104 (by decide) ?_
      refine lv_ishr hx hb dL_write_106 ?_
      refine lv_iconst (v := nI 5) hx hb dL_write_107 (by decide) ?_
      have hF := chF0 hS hA
      refine va_calli (va_runS (As := [.int (x >>> ((nI 7) &&& 31)), .int (nI 5)]) (rest := [.int (nI (k_4 + ad9)), .int (nI (1 + k_3)), .int (nI k_2), .int (nI 0), .ref be]) ⟨hx, hb, hml, hown, hts⟩ (c_L_below l D kA z (x >>> ((nI 7) &&& 31)) 5 (by first | assumption | omega) (by first | assumption | omega) _) (va_cwS 2 hts h_L_write_0 rfl rfl rfl (by decide +kernel) ⟨Nat.le_of_ble_eq_true rfl, Nat.le_of_ble_eq_true rfl⟩) (fPs0 hK hS hG hF) rfl rfl hl.1 rfl (lv_room (Nat.le_of_ble_eq_true rfl)) dL_write_108 ⟨Nat.le_of_ble_eq_true rfl, Nat.le_of_ble_eq_true rfl⟩) hS (fun q _ h => hF q h) hF (fun r_6 w1 t H locs ht hvm hw hB hz1 hk1 hS => ?_)
      obtain ⟨hP, hD⟩ := chJ0 hP hD hk1 hF ht hB
      try dsimp only at hw
      obtain ⟨k_6, rfl, e_6, hkq_6⟩ := hw
      rw [List.append_nil] at hP hD
      replace e_6 := e_6.symm
      subst e_6
      have hP : va_P D vwCl (wB kA B) H := hP
      have hD : va_D A (wB kA B) := hD
      have jn_119 : ∀ (rt9 : Nat) (_ : True), (rt9 ≤ 1) → ∀ (H : Heap) (locs : List Loc) (ls : Array Slot), va_P D vwCl (wB kA B) H → va_D A (wB kA B) → va_S A s.heap H locs → lv_has ls 3 [(0, .ref be), (1, .int x)] → W p l e ({ frames := 8, cells := 1, slots := 6, locals := 137 }) s m args below meth c H locs 0 0 (MQ below (va_Qv (fun w => ∃ (B2 : BS), w = (wB kA B2) ∧ (B2.2 0 = be) ∧ (BI B2) ∧ (B2.2 = B.2) ∧ (∀ j, j < 4 → nn (B2.1 j) 3 = nn (B.1 j) 3)) (fB D (tyL kA) A) A) args s 1 6 A) (F0 m 119 ls [.int (nI rt9), .int (nI (k_4 + ad9)), .int (nI (1 + k_3)), .int (nI k_2), .int (nI 0), .ref be]) := by
        clear hP hD hS hl
        intro rt9 _ hrt9 H locs ls hP hD hS hl
        have hF := chF [] hD hS hA
        refine vx_calli (vx_runV (As := [.int (nI 0), .int (nI k_2), .int (nI (1 + k_3)), .int (nI (k_4 + ad9)), .int (nI rt9)]) (rest := []) ⟨hx, hb, hml, hown, hts⟩ (c_X6_sector_xB l D kA z hfl B be 0 k_2 (1 + k_3) (k_4 + ad9) rt9 (by first | assumption | omega) (by first | assumption | omega) (by first | assumption | omega) (by first | assumption | omega) (by first | assumption | omega) (by first | assumption | omega) (by first | assumption | omega) (by first | assumption | omega) _) (cwV 5 hts h_L_write_1 rfl rfl rfl (by decide +kernel) ⟨Nat.le_of_ble_eq_true rfl, Nat.le_of_ble_eq_true rfl⟩) (fPvB [] (hbe) hK hP hD hS hG hF) rfl rfl hl.1 rfl (lv_room (Nat.le_of_ble_eq_true rfl)) dL_write_119 ⟨Nat.le_of_ble_eq_true rfl, Nat.le_of_ble_eq_true rfl⟩) hS (fun q _ h => hF q h) hF (fun q _ h => hF q h) (fun E ce q9 u9 t H locs ht hvm hw hB hz1 hk1 hS hc9 hv9 hcl9 => ?_) (fun r_7 w1 t H locs ht hvm hw hB hz1 hk1 hS => ?_)
        ·
          obtain ⟨E9, w1⟩ := u9
          obtain ⟨e9, hB⟩ := hB
          have e9 : E9 = E := e9
          subst e9
          obtain ⟨hP, hD⟩ := chJ [] hP hD hk1 hF ht hB
          obtain ⟨hE9, rfl⟩ := hw
          try dsimp only at hE9
          have hP : va_P D vwCl (wB kA B) H := hP
          have hD : va_D A (wB kA B) := hD
          subst hE9
          refine vx_catch (name := "java/lang/IllegalStateException") hown [] ⟨0, 123, 126, 59⟩ [] (htab.trans rfl) (fun _ h => absurd h List.not_mem_nil) (by decide) (by decide) (wAt hts 8 (w := .classLink RL 59 "java/lang/IllegalStateException") rfl) (va_Nw.use rfl (hG.2.2.2.1.2.2.2.1 _ (List.mem_of_getElem? (i := 1) rfl))) hc9 hv9 hcl9 ?_
          refine lv_astore_n (lv' := [(2, .ref q9), (0, .ref be), (1, .int x)]) hx hb dL_write_126 rfl hl (by decide) rfl (fun ls hl => ?_)
          exact endV hx hb hr hlocks hK hP hD hS (⟨B, rfl, hbe, hI, rfl, fun _ _ => rfl⟩) (Nat.le_of_ble_eq_true rfl) (Nat.le_of_ble_eq_true rfl) dL_write_127
        ·
          obtain ⟨hP, hD⟩ := chJ [] hP hD hk1 hF ht hB
          try dsimp only at hw
          obtain ⟨S_1, rfl, e_7, q_1, hl_1⟩ := hw
          replace e_7 := e_7.symm
          subst e_7
          have hP : va_P D vwCl (wB kA (uP B.1 0 S_1, B.2)) H := hP
          have hD : va_D A (wB kA (uP B.1 0 S_1, B.2)) := hD
          refine lv_pop hx hb dL_write_122 rfl ?_
          refine lv_goto (tgt := 128) hx hb dL_write_123 (by decide) ?_
          exact endV hx hb hr hlocks hK hP hD hS (⟨(uP B.1 0 S_1, B.2), rfl, hbe, BI_T hI q_1.1, rfl, uP_3 (q_1.2.1 3 (by decide))⟩) (Nat.le_of_ble_eq_true rfl) (Nat.le_of_ble_eq_true rfl) dL_write_128
      refine lv_if_le (tgt := 118) hx hb dL_write_111 (by decide) (fun c111 => ?_) (fun c111 => ?_)
      ·
        rw [qnp (a := k_6) (by omega)] at c111
        refine lv_iconst (v := nI 0) hx hb dL_write_118 (by decide) ?_
        exact jn_119 0 trivial (by first | assumption | omega | rfl) _ _ _ hP hD hS (lv_sub hl [0, 1] rfl)
      ·
        rw [qnp (a := k_6) (by omega)] at c111
        refine lv_iconst (v := nI 1) hx hb dL_write_114 (by decide) ?_
        refine lv_goto (tgt := 119) hx hb dL_write_115 (by decide) ?_
        exact jn_119 1 trivial (by first | assumption | omega | rfl) _ _ _ hP hD hS (lv_sub hl [0, 1] rfl)
    refine lv_if_ne (tgt := 101) hx hb dL_write_92 (by decide) (fun c92 => ?_) (fun c92 => ?_)
    ·
      rw [qz (a := k_5) (by omega)] at c92
      refine lv_iconst (v := nI 0) hx hb dL_write_101 (by decide) ?_
      exact jn_102 0 trivial (by first | assumption | omega | rfl) _ _ _ hP hD hS (lv_sub hl [0, 1] rfl)
    ·
      rw [qz (a := k_5) (by omega)] at c92
      refine lv_sipush (v := nI 255) hx hb dL_write_95 (by decide) ?_
      refine lv_goto (tgt := 102) hx hb dL_write_98 (by decide) ?_
      exact jn_102 255 trivial (by first | assumption | omega | rfl) _ _ _ hP hD hS (lv_sub hl [0, 1] rfl)
  rcases (show k_1 = 0 ∨ k_1 = 1 ∨ k_1 = 2 ∨ k_1 = 3 ∨ k_1 = 4 ∨ k_1 = 5 ∨ k_1 = 6 ∨ k_1 = 7 ∨ k_1 = 8 by omega) with k6 | k6 | k6 | k6 | k6 | k6 | k6 | k6 | k6
  ·
    refine W.eq (g2 := F0 m 6 ls [(.int (nI 0))]) (by rw [k6]) ?_
    refine lv_lookup (off := 26) (tgt := 32) hx hb dL_write_6 (by decide) (by decide) (by decide) ?_
    refine lv_aload_n hx hb dL_write_32 rfl (lv_at hl 0 rfl) ?_
    refine lv_iconst (v := nI 0) hx hb dL_write_33 (by decide) ?_
    refine lv_iload_n hx hb dL_write_34 rfl (lv_at hl 1 rfl) ?_
    refine lv_iconst (v := nI 3) hx hb dL_write_35 (by decide) ?_
    refine lv_ishr hx hb dL_write_36 ?_
    refine lv_sipush (v := nI 256) hx hb dL_write_37 (by decide) ?_
    have hF := chF0 hS hA
    refine va_calli (va_runS (As := [.int (x >>> ((nI 3) &&& 31)), .int (nI 256)]) (rest := [.int (nI 0), .ref be]) ⟨hx, hb, hml, hown, hts⟩ (c_L_below l D kA z (x >>> ((nI 3) &&& 31)) 256 (by first | assumption | omega) (by first | assumption | omega) _) (va_cwS 2 hts h_L_write_0 rfl rfl rfl (by decide +kernel) ⟨Nat.le_of_ble_eq_true rfl, Nat.le_of_ble_eq_true rfl⟩) (fPs0 hK hS hG hF) rfl rfl hl.1 rfl (lv_room (Nat.le_of_ble_eq_true rfl)) dL_write_40 ⟨Nat.le_of_ble_eq_true rfl, Nat.le_of_ble_eq_true rfl⟩) hS (fun q _ h => hF q h) hF (fun r_8 w1 t H locs ht hvm hw hB hz1 hk1 hS => ?_)
    obtain ⟨hP, hD⟩ := chJ0 hP hD hk1 hF ht hB
    try dsimp only at hw
    obtain ⟨k_7, rfl, e_8, hkq_7⟩ := hw
    rw [List.append_nil] at hP hD
    replace e_8 := e_8.symm
    subst e_8
    have hP : va_P D vwCl (wB kA B) H := hP
    have hD : va_D A (wB kA B) := hD
    have hF := chF [] hD hS hA
    refine vx_calli (vx_runV (As := [.int (nI 0), .int (nI k_7)]) (rest := []) ⟨hx, hb, hml, hown, hts⟩ (c_X6_write_xB l D kA z hfl B be 0 k_7 (by first | assumption | omega) (by first | assumption | omega) (by first | assumption | omega) (by first | assumption | omega) _) (cwV 2 hts h_L_write_2 rfl rfl rfl (by decide +kernel) ⟨Nat.le_of_ble_eq_true rfl, Nat.le_of_ble_eq_true rfl⟩) (fPvB [] (hbe) hK hP hD hS hG hF) rfl rfl hl.1 rfl (lv_room (Nat.le_of_ble_eq_true rfl)) dL_write_43 ⟨Nat.le_of_ble_eq_true rfl, Nat.le_of_ble_eq_true rfl⟩) hS (fun q _ h => hF q h) hF (fun q _ h => hF q h) (fun E ce q9 u9 t H locs ht hvm hw hB hz1 hk1 hS hc9 hv9 hcl9 => ?_) (fun r_9 w1 t H locs ht hvm hw hB hz1 hk1 hS => ?_)
    ·
      obtain ⟨E9, w1⟩ := u9
      obtain ⟨e9, hB⟩ := hB
      have e9 : E9 = E := e9
      subst e9
      obtain ⟨hP, hD⟩ := chJ [] hP hD hk1 hF ht hB
      obtain ⟨hE9, rfl⟩ := hw
      try dsimp only at hE9
      have hP : va_P D vwCl (wB kA B) H := hP
      have hD : va_D A (wB kA B) := hD
      subst hE9
      refine vx_catch (name := "java/lang/IllegalStateException") hown [] ⟨0, 123, 126, 59⟩ [] (htab.trans rfl) (fun _ h => absurd h List.not_mem_nil) (by decide) (by decide) (wAt hts 8 (w := .classLink RL 59 "java/lang/IllegalStateException") rfl) (va_Nw.use rfl (hG.2.2.2.1.2.2.2.1 _ (List.mem_of_getElem? (i := 1) rfl))) hc9 hv9 hcl9 ?_
      refine lv_astore_n (lv' := [(2, .ref q9), (0, .ref be), (1, .int x)]) hx hb dL_write_126 rfl hl (by decide) rfl (fun ls hl => ?_)
      exact endV hx hb hr hlocks hK hP hD hS (⟨B, rfl, hbe, hI, rfl, fun _ _ => rfl⟩) (Nat.le_of_ble_eq_true rfl) (Nat.le_of_ble_eq_true rfl) dL_write_127
    ·
      obtain ⟨hP, hD⟩ := chJ [] hP hD hk1 hF ht hB
      try dsimp only at hw
      obtain ⟨S_2, rfl, e_9, q_2⟩ := hw
      replace e_9 := e_9.symm
      subst e_9
      have hP : va_P D vwCl (wB kA (uP B.1 0 S_2, B.2)) H := hP
      have hD : va_D A (wB kA (uP B.1 0 S_2, B.2)) := hD
      refine lv_pop hx hb dL_write_46 rfl ?_
      refine lv_goto (tgt := 123) hx hb dL_write_47 (by decide) ?_
      refine lv_goto (tgt := 128) hx hb dL_write_123 (by decide) ?_
      exact endV hx hb hr hlocks hK hP hD hS (⟨(uP B.1 0 S_2, B.2), rfl, hbe, BI_T hI q_2.1, rfl, uP_3 (q_2.2.1 3 (by decide))⟩) (Nat.le_of_ble_eq_true rfl) (Nat.le_of_ble_eq_true rfl) dL_write_128
  ·
    refine W.eq (g2 := F0 m 6 ls [(.int (nI 1))]) (by rw [k6]) ?_
    refine lv_lookup (off := 44) (tgt := 50) hx hb dL_write_6 (by decide) (by decide) (by decide) ?_
    refine lv_aload_n hx hb dL_write_50 rfl (lv_at hl 0 rfl) ?_
    refine lv_iconst (v := nI 0) hx hb dL_write_51 (by decide) ?_
    have hF := chF [] hD hS hA
    refine vx_calli (vx_runV (As := [.int (nI 0)]) (rest := []) ⟨hx, hb, hml, hown, hts⟩ (c_X6_mark_xB l D kA z hfl B be 0 (by first | assumption | omega) (by first | assumption | omega) (by first | assumption | omega) _) (cwV 1 hts h_L_write_3 rfl rfl rfl (by decide +kernel) ⟨Nat.le_of_ble_eq_true rfl, Nat.le_of_ble_eq_true rfl⟩) (fPvB [] (hbe) hK hP hD hS hG hF) rfl rfl hl.1 rfl (lv_room (Nat.le_of_ble_eq_true rfl)) dL_write_52 ⟨Nat.le_of_ble_eq_true rfl, Nat.le_of_ble_eq_true rfl⟩) hS (fun q _ h => hF q h) hF (fun q _ h => hF q h) (fun E ce q9 u9 t H locs ht hvm hw hB hz1 hk1 hS hc9 hv9 hcl9 => ?_) (fun r_10 w1 t H locs ht hvm hw hB hz1 hk1 hS => ?_)
    ·
      obtain ⟨E9, w1⟩ := u9
      obtain ⟨e9, hB⟩ := hB
      have e9 : E9 = E := e9
      subst e9
      obtain ⟨hP, hD⟩ := chJ [] hP hD hk1 hF ht hB
      obtain ⟨hE9, rfl⟩ := hw
      try dsimp only at hE9
      have hP : va_P D vwCl (wB kA B) H := hP
      have hD : va_D A (wB kA B) := hD
      subst hE9
      refine vx_catch (name := "java/lang/IllegalStateException") hown [] ⟨0, 123, 126, 59⟩ [] (htab.trans rfl) (fun _ h => absurd h List.not_mem_nil) (by decide) (by decide) (wAt hts 8 (w := .classLink RL 59 "java/lang/IllegalStateException") rfl) (va_Nw.use rfl (hG.2.2.2.1.2.2.2.1 _ (List.mem_of_getElem? (i := 1) rfl))) hc9 hv9 hcl9 ?_
      refine lv_astore_n (lv' := [(2, .ref q9), (0, .ref be), (1, .int x)]) hx hb dL_write_126 rfl hl (by decide) rfl (fun ls hl => ?_)
      exact endV hx hb hr hlocks hK hP hD hS (⟨B, rfl, hbe, hI, rfl, fun _ _ => rfl⟩) (Nat.le_of_ble_eq_true rfl) (Nat.le_of_ble_eq_true rfl) dL_write_127
    ·
      obtain ⟨hP, hD⟩ := chJ [] hP hD hk1 hF ht hB
      try dsimp only at hw
      obtain ⟨S_3, rfl, e_10, q_3, m_1, m_2, m_3⟩ := hw
      replace e_10 := e_10.symm
      subst e_10
      have hP : va_P D vwCl (wB kA (uP B.1 0 S_3, B.2)) H := hP
      have hD : va_D A (wB kA (uP B.1 0 S_3, B.2)) := hD
      refine lv_pop hx hb dL_write_55 rfl ?_
      refine lv_goto (tgt := 123) hx hb dL_write_56 (by decide) ?_
      refine lv_goto (tgt := 128) hx hb dL_write_123 (by decide) ?_
      exact endV hx hb hr hlocks hK hP hD hS (⟨(uP B.1 0 S_3, B.2), rfl, hbe, BI_T hI q_3.1, rfl, uP_3 (q_3.2.1 3 (by decide))⟩) (Nat.le_of_ble_eq_true rfl) (Nat.le_of_ble_eq_true rfl) dL_write_128
  ·
    refine W.eq (g2 := F0 m 6 ls [(.int (nI 2))]) (by rw [k6]) ?_
    refine lv_lookup (off := 53) (tgt := 59) hx hb dL_write_6 (by decide) (by decide) (by decide) ?_
    exact jn_59  trivial  _ _ _ hP hD hS (lv_sub hl [0, 1] rfl)
  ·
    refine W.eq (g2 := F0 m 6 ls [(.int (nI 3))]) (by rw [k6]) ?_
    refine lv_lookup (off := 53) (tgt := 59) hx hb dL_write_6 (by decide) (by decide) (by decide) ?_
    exact jn_59  trivial  _ _ _ hP hD hS (lv_sub hl [0, 1] rfl)
  ·
    refine W.eq (g2 := F0 m 6 ls [(.int (nI 4))]) (by rw [k6]) ?_
    refine lv_lookup (off := 53) (tgt := 59) hx hb dL_write_6 (by decide) (by decide) (by decide) ?_
    exact jn_59  trivial  _ _ _ hP hD hS (lv_sub hl [0, 1] rfl)
  ·
    refine W.eq (g2 := F0 m 6 ls [(.int (nI 5))]) (by rw [k6]) ?_
    refine lv_lookup (off := 53) (tgt := 59) hx hb dL_write_6 (by decide) (by decide) (by decide) ?_
    exact jn_59  trivial  _ _ _ hP hD hS (lv_sub hl [0, 1] rfl)
  ·
    refine W.eq (g2 := F0 m 6 ls [(.int (nI 6))]) (by rw [k6]) ?_
    refine lv_lookup (off := 53) (tgt := 59) hx hb dL_write_6 (by decide) (by decide) (by decide) ?_
    exact jn_59  trivial  _ _ _ hP hD hS (lv_sub hl [0, 1] rfl)
  ·
    refine W.eq (g2 := F0 m 6 ls [(.int (nI 7))]) (by rw [k6]) ?_
    refine lv_lookup (off := 53) (tgt := 59) hx hb dL_write_6 (by decide) (by decide) (by decide) ?_
    exact jn_59  trivial  _ _ _ hP hD hS (lv_sub hl [0, 1] rfl)
  ·
    refine W.eq (g2 := F0 m 6 ls [(.int (nI 8))]) (by rw [k6]) ?_
    refine lv_lookup (off := 53) (tgt := 59) hx hb dL_write_6 (by decide) (by decide) (by decide) ?_
    exact jn_59  trivial  _ _ _ hP hD hS (lv_sub hl [0, 1] rfl)
