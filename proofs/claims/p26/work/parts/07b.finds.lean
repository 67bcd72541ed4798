def wq_X1_planPlainCopy : List Cond := .code yX1_planPlainCopy cX1_planPlainCopy 3 none :: (([.fieldLink RX1 32 "FluxBench$Finds" "plainCount" "I", .fieldLink RX1 35 "FluxBench$Finds" "plainCells" "I", .fieldLink RX1 18 "FluxBench$Finds" "sectors" "I", .methodLink RX1 74 yX1_isFirstGood, .instanceMethod yX1_isFirstGood, .selects RX1 yX1_isFirstGood yX1_isFirstGood, .initialized RX1, .fieldLink RX1 38 "FluxBench$Finds" "code" "I", .methodLink RX1 78 yX1_valueOf, .instanceMethod yX1_valueOf, .selects RX1 yX1_valueOf yX1_valueOf, .methodLink RX1 82 yX0_cellsOfSector, .static yX0_cellsOfSector, .initialized RX0, .fieldLink RX1 15 "FluxBench$Finds" "plainSectors" "[I"] : List Cond) ++ (u_ws RX1 TX1 9 ++ (wq_X1_isFirstGood ++ (wq_X1_valueOf_in ++ (wq_X0_cellsOfSector ++ ([] : List Cond))))))
theorem gd_X1_planPlainCopy : wq_X1_planPlainCopy.all goodWord = true := by decide +kernel
theorem n_X1_planPlainCopy_X1 : ∀ w ∈ u_ws RX1 TX1 9, w ∈ wq_X1_planPlainCopy := fun w h => List.mem_cons_of_mem _ (List.mem_append_right _ (List.mem_append_left _ h))
theorem h_X1_planPlainCopy_0 : GoodIn wq_X1_planPlainCopy (wsV RX1 74 RX1 yX1_isFirstGood wq_X1_isFirstGood) := goodIn_app (goodIn_r _ [4, 5, 6, 7] (by decide +kernel) (by decide +kernel)) (goodIn_sub (fun w h => List.mem_cons_of_mem _ (List.mem_append_right _ (List.mem_append_right _ (List.mem_append_left _ h)))) gd_X1_isFirstGood)
theorem h_X1_planPlainCopy_1 : GoodIn wq_X1_planPlainCopy (wsV RX1 78 RX1 yX1_valueOf wq_X1_valueOf_in) := goodIn_app (goodIn_r _ [9, 10, 11, 7] (by decide +kernel) (by decide +kernel)) (goodIn_sub (fun w h => List.mem_cons_of_mem _ (List.mem_append_right _ (List.mem_append_right _ (List.mem_append_right _ (List.mem_append_left _ h))))) gd_X1_valueOf_in)
theorem h_X1_planPlainCopy_2 : GoodIn wq_X1_planPlainCopy (va_wsS RX1 82 yX0_cellsOfSector wq_X0_cellsOfSector) := goodIn_app (goodIn_r _ [12, 13, 14] (by decide +kernel) (by decide +kernel)) (goodIn_sub (fun w h => List.mem_cons_of_mem _ (List.mem_append_right _ (List.mem_append_right _ (List.mem_append_right _ (List.mem_append_right _ (List.mem_append_left _ h)))))) gd_X0_cellsOfSector)
set_option maxHeartbeats 4000000 in
set_option maxRecDepth 100000 in
theorem c_X1_planPlainCopy (l : Launch) (D : va_G) (kA : Nat → ClassId) (z : Nat) (h0 va pa cd ns ng nst cu pn pl : Nat) (v ps : Nat → Int32) (hns : ns ≤ 8) (hcd : cd ≤ 2) (hu : ∀ k, k < ns → ∃ u : Nat, v (k * 9 + 2) = nI u ∧ 1 ≤ u ∧ u ≤ 4) : mV l D (tyL kA) z yX1_planPlainCopy wq_X1_planPlainCopy ({ frames := 3, cells := 0, slots := 0, locals := 66 }) [.ref h0] [(h0, .inr (0, [.int (nI cd), .ref va, .ref pa, .int (nI ns), .int (nI ng), .int (nI nst), .int (nI cu), .int (nI pn), .int (nI pl)])), (va, .inl (kA 0, 72, .inl v)), (pa, .inl (kA 0, 8, .inl ps))] (fun w => ∃ (pn2 pl2 : Nat) (ps2 : Nat → Int32), w = [(h0, .inr (0, [.int (nI cd), .ref va, .ref pa, .int (nI ns), .int (nI ng), .int (nI nst), .int (nI cu), .int (nI pn2), .int (nI pl2)])), (va, .inl (kA 0, 72, .inl v)), (pa, .inl (kA 0, 8, .inl ps2))] ∧ (pAll cd v ps2 ns pn2 pl2) ∧ (0 < pl2 ↔ 0 < cntG v ns)) := by
  refine ofV (cc := cX1_planPlainCopy) (maxL := 3) RX1 rfl (by decide +kernel) rfl (Nat.le_of_ble_eq_true rfl) ?_
  intro p e s m args below meth c A ls hnm hE
  obtain ⟨hx, hb, hr, hml, hts, hown, hlocks, hA, hS, hP, hK, hD, hG, hl⟩ := hE
  have hl : lv_has ls 3 [(0, .ref h0)] := hl
  have hH : s.heap = s.heap := rfl
  refine lv_aload_n hx hb dX1_planPlainCopy_0 rfl (lv_at hl 0 rfl) ?_
  refine lv_iconst (v := nI 0) hx hb dX1_planPlainCopy_1 (by decide) ?_
  refine va_put (D := D) (ci := 0) (v := .int (nI 0)) (ty := .int) (C := RX1) (T := TX1) (N := 9) hx hb hts n_X1_planPlainCopy_X1 tyX1 tyX1_ok nmX1 hown hK hP hD hS 0 rfl rfl 7 (by decide) (wAt hts 1 (w := .fieldLink RX1 32 "FluxBench$Finds" "plainCount" "I") rfl) (fun _ h9 => h9) rfl (by decide +kernel) rfl rfl (Nat.le_of_ble_eq_true rfl) dX1_planPlainCopy_2 (fun H locs hP hD hS => ?_)
  have hP : va_P D vwCl [(h0, .inr (0, [.int (nI cd), .ref va, .ref pa, .int (nI ns), .int (nI ng), .int (nI nst), .int (nI cu), .int (nI 0), .int (nI pl)])), (va, .inl (kA 0, 72, .inl v)), (pa, .inl (kA 0, 8, .inl ps))] H := hP
  have hD : va_D A [(h0, .inr (0, [.int (nI cd), .ref va, .ref pa, .int (nI ns), .int (nI ng), .int (nI nst), .int (nI cu), .int (nI 0), .int (nI pl)])), (va, .inl (kA 0, 72, .inl v)), (pa, .inl (kA 0, 8, .inl ps))] := hD
  refine lv_aload_n hx hb dX1_planPlainCopy_5 rfl (lv_at hl 0 rfl) ?_
  refine lv_iconst (v := nI 0) hx hb dX1_planPlainCopy_6 (by decide) ?_
  refine va_put (D := D) (ci := 0) (v := .int (nI 0)) (ty := .int) (C := RX1) (T := TX1) (N := 9) hx hb hts n_X1_planPlainCopy_X1 tyX1 tyX1_ok nmX1 hown hK hP hD hS 0 rfl rfl 8 (by decide) (wAt hts 2 (w := .fieldLink RX1 35 "FluxBench$Finds" "plainCells" "I") rfl) (fun _ h9 => h9) rfl (by decide +kernel) rfl rfl (Nat.le_of_ble_eq_true rfl) dX1_planPlainCopy_7 (fun H locs hP hD hS => ?_)
  have hP : va_P D vwCl [(h0, .inr (0, [.int (nI cd), .ref va, .ref pa, .int (nI ns), .int (nI ng), .int (nI nst), .int (nI cu), .int (nI 0), .int (nI 0)])), (va, .inl (kA 0, 72, .inl v)), (pa, .inl (kA 0, 8, .inl ps))] H := hP
  have hD : va_D A [(h0, .inr (0, [.int (nI cd), .ref va, .ref pa, .int (nI ns), .int (nI ng), .int (nI nst), .int (nI cu), .int (nI 0), .int (nI 0)])), (va, .inl (kA 0, 72, .inl v)), (pa, .inl (kA 0, 8, .inl ps))] := hD
  refine lv_iconst (v := nI 0) hx hb dX1_planPlainCopy_10 (by decide) ?_
  refine lv_istore_n (lv' := [(1, .int (nI 0)), (0, .ref h0)]) hx hb dX1_planPlainCopy_11 rfl hl (by decide) rfl (fun ls hl => ?_)
  have lp_12 : ∀ (n_12 : Nat) (i : Nat) (pn9 : Nat) (pl9 : Nat) (gp : Nat → Int32), ns - i < n_12 → (i ≤ ns) → (pAll cd v gp ns pn9 pl9) → (∀ j, j < i → v (j * 9 + 3) = nI 1 → 0 < pl9) → (0 < pl9 → 0 < cntG v ns) → (0 < pn9 → 0 < pl9) → ∀ (H : Heap) (locs : List Loc) (ls : Array Slot), va_P D vwCl [(h0, .inr (0, [.int (nI cd), .ref va, .ref pa, .int (nI ns), .int (nI ng), .int (nI nst), .int (nI cu), .int (nI pn9), .int (nI pl9)])), (va, .inl (kA 0, 72, .inl v)), (pa, .inl (kA 0, 8, .inl gp))] H → va_D A [(h0, .inr (0, [.int (nI cd), .ref va, .ref pa, .int (nI ns), .int (nI ng), .int (nI nst), .int (nI cu), .int (nI pn9), .int (nI pl9)])), (va, .inl (kA 0, 72, .inl v)), (pa, .inl (kA 0, 8, .inl gp))] → va_S A s.heap H locs → lv_has ls 3 [(1, .int (nI i)), (0, .ref h0)] → W p l e ({ frames := 3, cells := 0, slots := 0, locals := 66 }) s m args below meth c H locs 0 0 (MQ below (va_Qv (fun w => ∃ (pn2 pl2 : Nat) (ps2 : Nat → Int32), w = [(h0, .inr (0, [.int (nI cd), .ref va, .ref pa, .int (nI ns), .int (nI ng), .int (nI nst), .int (nI cu), .int (nI pn2), .int (nI pl2)])), (va, .inl (kA 0, 72, .inl v)), (pa, .inl (kA 0, 8, .inl ps2))] ∧ (pAll cd v ps2 ns pn2 pl2) ∧ (0 < pl2 ↔ 0 < cntG v ns)) (fB D (tyL kA) A) A) args s 0 0 A) (F0 m 12 ls []) := by
    clear hP hD hS hl
    intro n_12
    induction n_12 with
    | zero =>
      intro i pn9 pl9 gp hm_12 hi1 hq9 hz hz2 hpn
      exact absurd hm_12 (by omega)
    | succ n_12 ih_12 =>
      intro i pn9 pl9 gp hm_12 hi1 hq9 hz hz2 hpn H locs ls hP hD hS hl
      have hpl9 := hq9.2.1
      have hpn9 := hq9.1
      refine lv_iload_n hx hb dX1_planPlainCopy_12 rfl (lv_at hl 0 rfl) ?_
      refine lv_aload_n hx hb dX1_planPlainCopy_13 rfl (lv_at hl 1 rfl) ?_
      refine va_get (D := D) (ci := 0) (v := .int (nI ns)) (C := RX1) (T := TX1) (N := 9) hx hb hts n_X1_planPlainCopy_X1 hown hK hP 0 rfl rfl 3 (by decide) (wAt hts 3 (w := .fieldLink RX1 18 "FluxBench$Finds" "sectors" "I") rfl) (fun _ h9 => h9) rfl dX1_planPlainCopy_14 ?_
      refine lv_icmp_ge (tgt := 113) hx hb dX1_planPlainCopy_17 (by decide) (fun c17 => ?_) (fun c17 => ?_)
      ·
        rw [qle (a := ns) (b := i) (by omega) (by omega)] at c17
        exact endV hx hb hr hlocks hK hP hD hS (⟨pn9, pl9, gp, rfl, hq9, ⟨hz2, fun h => by obtain ⟨j9, a9, b9⟩ := (cntG_pos ns).mp h; exact hz j9 (by omega) b9⟩⟩) (Nat.le_of_ble_eq_true rfl) (Nat.le_of_ble_eq_true rfl) dX1_planPlainCopy_113
      ·
        rw [qle (a := ns) (b := i) (by omega) (by omega)] at c17
        refine lv_aload_n hx hb dX1_planPlainCopy_20 rfl (lv_at hl 1 rfl) ?_
        refine lv_iload_n hx hb dX1_planPlainCopy_21 rfl (lv_at hl 0 rfl) ?_
        have hF := va_free (wc := [(h0, .inr (0, [.int (nI cd), .ref va, .ref pa, .int (nI ns), .int (nI ng), .int (nI nst), .int (nI cu), .int (nI pn9), .int (nI pl9)])), (va, .inl (kA 0, 72, .inl v))]) hD hS hA [0, 1] rfl
        refine va_calli (va_runV (As := [.int (nI i)]) (rest := []) ⟨hx, hb, hml, hown, hts⟩ (c_X1_isFirstGood l D kA z h0 va pa cd ns ng nst cu pn9 pl9 v i (by first | assumption | omega) (by first | assumption | omega) _) (cwV 1 hts h_X1_planPlainCopy_0 rfl rfl rfl (by decide +kernel) ⟨Nat.le_of_ble_eq_true rfl, Nat.le_of_ble_eq_true rfl⟩) (fPv hK hP hD hS hG hF [0, 1] (by decide) rfl 0 0 rfl rfl rfl) rfl rfl hl.1 rfl (lv_room (Nat.le_of_ble_eq_true rfl)) dX1_planPlainCopy_22 ⟨Nat.le_of_ble_eq_true rfl, Nat.le_of_ble_eq_true rfl⟩) hS (fun q _ h => hF q h) hF (fun r_1 w1 t H locs ht hvm hw hB hz1 hk1 hS => ?_)
        obtain ⟨hP, hD⟩ := fJ (wr := [(pa, .inl (kA 0, 8, .inl gp))]) hP hD [0, 1] [2] rfl rfl (by decide) (by decide) hk1 hF ht hB
        try dsimp only at hw
        obtain ⟨b_1, rfl, hb_1, e_1, e_2⟩ := hw
        replace e_1 := e_1.symm
        subst e_1
        have hP : va_P D vwCl [(pa, .inl (kA 0, 8, .inl gp)), (h0, .inr (0, [.int (nI cd), .ref va, .ref pa, .int (nI ns), .int (nI ng), .int (nI nst), .int (nI cu), .int (nI pn9), .int (nI pl9)])), (va, .inl (kA 0, 72, .inl v))] H := hP
        have hD : va_D A [(pa, .inl (kA 0, 8, .inl gp)), (h0, .inr (0, [.int (nI cd), .ref va, .ref pa, .int (nI ns), .int (nI ng), .int (nI nst), .int (nI cu), .int (nI pn9), .int (nI pl9)])), (va, .inl (kA 0, 72, .inl v))] := hD
        refine lv_if_ne (tgt := 31) hx hb dX1_planPlainCopy_25 (by decide) (fun c25 => ?_) (fun c25 => ?_)
        ·
          rw [qz (a := b_1) (by omega)] at c25
          refine lv_aload_n hx hb dX1_planPlainCopy_31 rfl (lv_at hl 1 rfl) ?_
          refine va_get (D := D) (ci := 0) (v := .int (nI cd)) (C := RX1) (T := TX1) (N := 9) hx hb hts n_X1_planPlainCopy_X1 hown hK hP 1 rfl rfl 0 (by decide) (wAt hts 8 (w := .fieldLink RX1 38 "FluxBench$Finds" "code" "I") rfl) (fun _ h9 => h9) rfl dX1_planPlainCopy_32 ?_
          refine lv_aload_n hx hb dX1_planPlainCopy_35 rfl (lv_at hl 1 rfl) ?_
          refine lv_iload_n hx hb dX1_planPlainCopy_36 rfl (lv_at hl 0 rfl) ?_
          refine lv_iconst (v := nI 2) hx hb dX1_planPlainCopy_37 (by decide) ?_
          have hF := va_free (wc := [(h0, .inr (0, [.int (nI cd), .ref va, .ref pa, .int (nI ns), .int (nI ng), .int (nI nst), .int (nI cu), .int (nI pn9), .int (nI pl9)])), (va, .inl (kA 0, 72, .inl v))]) hD hS hA [1, 2] rfl
          refine va_calli (va_runV (As := [.int (nI i), .int (nI 2)]) (rest := [.int (nI cd)]) ⟨hx, hb, hml, hown, hts⟩ (c_X1_valueOf_in l D kA z h0 va pa cd ns ng nst cu pn9 pl9 i 2 v (by first | assumption | omega) (by first | assumption | omega) (by first | assumption | omega) _) (cwV 2 hts h_X1_planPlainCopy_1 rfl rfl rfl (by decide +kernel) ⟨Nat.le_of_ble_eq_true rfl, Nat.le_of_ble_eq_true rfl⟩) (fPv hK hP hD hS hG hF [1, 2] (by decide) rfl 1 0 rfl rfl rfl) rfl rfl hl.1 rfl (lv_room (Nat.le_of_ble_eq_true rfl)) dX1_planPlainCopy_38 ⟨Nat.le_of_ble_eq_true rfl, Nat.le_of_ble_eq_true rfl⟩) hS (fun q _ h => hF q h) hF (fun r_2 w1 t H locs ht hvm hw hB hz1 hk1 hS => ?_)
          obtain ⟨hP, hD⟩ := fJ (wr := [(pa, .inl (kA 0, 8, .inl gp))]) hP hD [1, 2] [0] rfl rfl (by decide) (by decide) hk1 hF ht hB
          try dsimp only at hw
          obtain ⟨rfl, e_3⟩ := hw
          have hP : va_P D vwCl [(pa, .inl (kA 0, 8, .inl gp)), (h0, .inr (0, [.int (nI cd), .ref va, .ref pa, .int (nI ns), .int (nI ng), .int (nI nst), .int (nI cu), .int (nI pn9), .int (nI pl9)])), (va, .inl (kA 0, 72, .inl v))] H := hP
          have hD : va_D A [(pa, .inl (kA 0, 8, .inl gp)), (h0, .inr (0, [.int (nI cd), .ref va, .ref pa, .int (nI ns), .int (nI ng), .int (nI nst), .int (nI cu), .int (nI pn9), .int (nI pl9)])), (va, .inl (kA 0, 72, .inl v))] := hD
          obtain ⟨u9, hu1, hu2, hu3⟩ := hu i (by omega)
          have hcm : (u9 + 3) * cB cd ≤ 7 * 16 := Nat.mul_le_mul (by omega) (cB_le cd)
          refine W.eq (g2 := F0 m 41 ls [.int (nI u9), .int (nI cd)]) (by rw [e_3, hu1]) ?_
          have hF := va_free (wc := []) hD hS hA [] rfl
          refine va_calli (va_runS (As := [.int (nI cd), .int (nI u9)]) (rest := []) ⟨hx, hb, hml, hown, hts⟩ (c_X0_cellsOfSector l D kA z cd u9 (by first | assumption | omega) (by first | assumption | omega) _) (va_cwS 2 hts h_X1_planPlainCopy_2 rfl rfl rfl (by decide +kernel) ⟨Nat.le_of_ble_eq_true rfl, Nat.le_of_ble_eq_true rfl⟩) (fPs hK hP hD hS hG hF [] (by decide) rfl) rfl rfl hl.1 rfl (lv_room (Nat.le_of_ble_eq_true rfl)) dX1_planPlainCopy_41 ⟨Nat.le_of_ble_eq_true rfl, Nat.le_of_ble_eq_true rfl⟩) hS (fun q _ h => hF q h) hF (fun r_3 w1 t H locs ht hvm hw hB hz1 hk1 hS => ?_)
          obtain ⟨hP, hD⟩ := fJ (wr := [(pa, .inl (kA 0, 8, .inl gp)), (h0, .inr (0, [.int (nI cd), .ref va, .ref pa, .int (nI ns), .int (nI ng), .int (nI nst), .int (nI cu), .int (nI pn9), .int (nI pl9)])), (va, .inl (kA 0, 72, .inl v))]) hP hD [] [0, 1, 2] rfl rfl (by decide) (by decide) hk1 hF ht hB
          try dsimp only at hw
          obtain ⟨rfl, e_4⟩ := hw
          replace e_4 := e_4.symm
          subst e_4
          have hP : va_P D vwCl [(pa, .inl (kA 0, 8, .inl gp)), (h0, .inr (0, [.int (nI cd), .ref va, .ref pa, .int (nI ns), .int (nI ng), .int (nI nst), .int (nI cu), .int (nI pn9), .int (nI pl9)])), (va, .inl (kA 0, 72, .inl v))] H := hP
          have hD : va_D A [(pa, .inl (kA 0, 8, .inl gp)), (h0, .inr (0, [.int (nI cd), .ref va, .ref pa, .int (nI ns), .int (nI ng), .int (nI nst), .int (nI cu), .int (nI pn9), .int (nI pl9)])), (va, .inl (kA 0, 72, .inl v))] := hD
          refine lv_istore_n (lv' := [(2, .int (nI (10 + (u9 + 3) * cB cd + 1))), (1, .int (nI i)), (0, .ref h0)]) hx hb dX1_planPlainCopy_44 rfl hl (by decide) rfl (fun ls hl => ?_)
          refine lv_aload_n hx hb dX1_planPlainCopy_45 rfl (lv_at hl 2 rfl) ?_
          refine va_get (D := D) (ci := 0) (v := .int (nI pl9)) (C := RX1) (T := TX1) (N := 9) hx hb hts n_X1_planPlainCopy_X1 hown hK hP 1 rfl rfl 8 (by decide) (wAt hts 2 (w := .fieldLink RX1 35 "FluxBench$Finds" "plainCells" "I") rfl) (fun _ h9 => h9) rfl dX1_planPlainCopy_46 ?_
          refine lv_iload_n hx hb dX1_planPlainCopy_49 rfl (lv_at hl 0 rfl) ?_
          refine lv_iadd hx hb dX1_planPlainCopy_50 ?_
          rw [nI_add pl9 (10 + (u9 + 3) * cB cd + 1)]
          refine lv_sipush (v := nI 400) hx hb dX1_planPlainCopy_51 (by decide) ?_
          refine lv_icmp_gt (tgt := 76) hx hb dX1_planPlainCopy_54 (by decide) (fun c54 => ?_) (fun c54 => ?_)
          ·
            rw [qlt (a := 400) (b := (pl9 + (10 + (u9 + 3) * cB cd + 1))) (by omega) (by omega)] at c54
            have hP := hP.sub (ws' := [(h0, .inr (0, [.int (nI cd), .ref va, .ref pa, .int (nI ns), .int (nI ng), .int (nI nst), .int (nI cu), .int (nI pn9), .int (nI pl9)])), (va, .inl (kA 0, 72, .inl v)), (pa, .inl (kA 0, 8, .inl gp))]) [1, 2, 0] rfl
            have hD := hD.sub (ws' := [(h0, .inr (0, [.int (nI cd), .ref va, .ref pa, .int (nI ns), .int (nI ng), .int (nI nst), .int (nI cu), .int (nI pn9), .int (nI pl9)])), (va, .inl (kA 0, 72, .inl v)), (pa, .inl (kA 0, 8, .inl gp))]) [1, 2, 0] (by decide) rfl
            exact endV hx hb hr hlocks hK hP hD hS (⟨pn9, pl9, gp, rfl, hq9, ⟨hz2, fun _ => by first | omega | exact hpn (by omega)⟩⟩) (Nat.le_of_ble_eq_true rfl) (Nat.le_of_ble_eq_true rfl) dX1_planPlainCopy_76
          ·
            rw [qlt (a := 400) (b := (pl9 + (10 + (u9 + 3) * cB cd + 1))) (by omega) (by omega)] at c54
            refine lv_aload_n hx hb dX1_planPlainCopy_57 rfl (lv_at hl 2 rfl) ?_
            refine va_get (D := D) (ci := 0) (v := .int (nI pn9)) (C := RX1) (T := TX1) (N := 9) hx hb hts n_X1_planPlainCopy_X1 hown hK hP 1 rfl rfl 7 (by decide) (wAt hts 1 (w := .fieldLink RX1 32 "FluxBench$Finds" "plainCount" "I") rfl) (fun _ h9 => h9) rfl dX1_planPlainCopy_58 ?_
            refine lv_if_lt (tgt := 76) hx hb dX1_planPlainCopy_61 (by decide) (fun c61 => absurd c61 (nI_pos (n := pn9) (by omega))) (fun _ => ?_)
            refine lv_aload_n hx hb dX1_planPlainCopy_64 rfl (lv_at hl 2 rfl) ?_
            refine va_get (D := D) (ci := 0) (v := .int (nI pn9)) (C := RX1) (T := TX1) (N := 9) hx hb hts n_X1_planPlainCopy_X1 hown hK hP 1 rfl rfl 7 (by decide) (wAt hts 1 (w := .fieldLink RX1 32 "FluxBench$Finds" "plainCount" "I") rfl) (fun _ h9 => h9) rfl dX1_planPlainCopy_65 ?_
            refine lv_aload_n hx hb dX1_planPlainCopy_68 rfl (lv_at hl 2 rfl) ?_
            refine va_get (D := D) (ci := 0) (v := .ref pa) (C := RX1) (T := TX1) (N := 9) hx hb hts n_X1_planPlainCopy_X1 hown hK hP 1 rfl rfl 2 (by decide) (wAt hts 15 (w := .fieldLink RX1 15 "FluxBench$Finds" "plainSectors" "[I") rfl) (fun _ h9 => h9) rfl dX1_planPlainCopy_69 ?_
            refine va_alen (v := nI 8) hx hb hK hP 0 0 rfl rfl rfl dX1_planPlainCopy_72 ?_
            refine lv_icmp_lt (tgt := 77) hx hb dX1_planPlainCopy_73 (by decide) (fun c73 => ?_) (fun c73 => ?_)
            ·
              rw [qlt (a := pn9) (b := 8) (by omega) (by omega)] at c73
              refine lv_aload_n hx hb dX1_planPlainCopy_77 rfl (lv_at hl 2 rfl) ?_
              refine va_get (D := D) (ci := 0) (v := .ref pa) (C := RX1) (T := TX1) (N := 9) hx hb hts n_X1_planPlainCopy_X1 hown hK hP 1 rfl rfl 2 (by decide) (wAt hts 15 (w := .fieldLink RX1 15 "FluxBench$Finds" "plainSectors" "[I") rfl) (fun _ h9 => h9) rfl dX1_planPlainCopy_78 ?_
              refine lv_aload_n hx hb dX1_planPlainCopy_81 rfl (lv_at hl 2 rfl) ?_
              refine va_get (D := D) (ci := 0) (v := .int (nI pn9)) (C := RX1) (T := TX1) (N := 9) hx hb hts n_X1_planPlainCopy_X1 hown hK hP 1 rfl rfl 7 (by decide) (wAt hts 1 (w := .fieldLink RX1 32 "FluxBench$Finds" "plainCount" "I") rfl) (fun _ h9 => h9) rfl dX1_planPlainCopy_82 ?_
              refine lv_iload_n hx hb dX1_planPlainCopy_85 rfl (lv_at hl 1 rfl) ?_
              refine va_iast hx hb hK hP hD hS 0 0 rfl rfl (vp_in_nI (n := pn9) (by omega) (by decide)) dX1_planPlainCopy_86 (fun H locs hP hD hS => ?_)
              rw [nI_clamp (n := pn9) (by omega)] at hP hD
              have hP : va_P D vwCl [(pa, .inl (kA 0, 8, .inl (upd gp pn9 (nI i)))), (h0, .inr (0, [.int (nI cd), .ref va, .ref pa, .int (nI ns), .int (nI ng), .int (nI nst), .int (nI cu), .int (nI pn9), .int (nI pl9)])), (va, .inl (kA 0, 72, .inl v))] H := hP
              have hD : va_D A [(pa, .inl (kA 0, 8, .inl (upd gp pn9 (nI i)))), (h0, .inr (0, [.int (nI cd), .ref va, .ref pa, .int (nI ns), .int (nI ng), .int (nI nst), .int (nI cu), .int (nI pn9), .int (nI pl9)])), (va, .inl (kA 0, 72, .inl v))] := hD
              refine lv_aload_n hx hb dX1_planPlainCopy_87 rfl (lv_at hl 2 rfl) ?_
              refine lv_dup hx hb dX1_planPlainCopy_88 rfl ?_
              refine va_get (D := D) (ci := 0) (v := .int (nI pn9)) (C := RX1) (T := TX1) (N := 9) hx hb hts n_X1_planPlainCopy_X1 hown hK hP 1 rfl rfl 7 (by decide) (wAt hts 1 (w := .fieldLink RX1 32 "FluxBench$Finds" "plainCount" "I") rfl) (fun _ h9 => h9) rfl dX1_planPlainCopy_89 ?_
              refine lv_iconst (v := nI 1) hx hb dX1_planPlainCopy_92 (by decide) ?_
              refine lv_iadd hx hb dX1_planPlainCopy_93 ?_
              rw [nI_add pn9 1]
              refine va_put (D := D) (ci := 0) (v := .int (nI (pn9 + 1))) (ty := .int) (C := RX1) (T := TX1) (N := 9) hx hb hts n_X1_planPlainCopy_X1 tyX1 tyX1_ok nmX1 hown hK hP hD hS 1 rfl rfl 7 (by decide) (wAt hts 1 (w := .fieldLink RX1 32 "FluxBench$Finds" "plainCount" "I") rfl) (fun _ h9 => h9) rfl (by decide +kernel) rfl rfl (Nat.le_of_ble_eq_true rfl) dX1_planPlainCopy_94 (fun H locs hP hD hS => ?_)
              have hP : va_P D vwCl [(pa, .inl (kA 0, 8, .inl (upd gp pn9 (nI i)))), (h0, .inr (0, [.int (nI cd), .ref va, .ref pa, .int (nI ns), .int (nI ng), .int (nI nst), .int (nI cu), .int (nI (pn9 + 1)), .int (nI pl9)])), (va, .inl (kA 0, 72, .inl v))] H := hP
              have hD : va_D A [(pa, .inl (kA 0, 8, .inl (upd gp pn9 (nI i)))), (h0, .inr (0, [.int (nI cd), .ref va, .ref pa, .int (nI ns), .int (nI ng), .int (nI nst), .int (nI cu), .int (nI (pn9 + 1)), .int (nI pl9)])), (va, .inl (kA 0, 72, .inl v))] := hD
              refine lv_aload_n hx hb dX1_planPlainCopy_97 rfl (lv_at hl 2 rfl) ?_
              refine lv_dup hx hb dX1_planPlainCopy_98 rfl ?_
              refine va_get (D := D) (ci := 0) (v := .int (nI pl9)) (C := RX1) (T := TX1) (N := 9) hx hb hts n_X1_planPlainCopy_X1 hown hK hP 1 rfl rfl 8 (by decide) (wAt hts 2 (w := .fieldLink RX1 35 "FluxBench$Finds" "plainCells" "I") rfl) (fun _ h9 => h9) rfl dX1_planPlainCopy_99 ?_
              refine lv_iload_n hx hb dX1_planPlainCopy_102 rfl (lv_at hl 0 rfl) ?_
              refine lv_iadd hx hb dX1_planPlainCopy_103 ?_
              rw [nI_add pl9 (10 + (u9 + 3) * cB cd + 1)]
              refine va_put (D := D) (ci := 0) (v := .int (nI (pl9 + (10 + (u9 + 3) * cB cd + 1)))) (ty := .int) (C := RX1) (T := TX1) (N := 9) hx hb hts n_X1_planPlainCopy_X1 tyX1 tyX1_ok nmX1 hown hK hP hD hS 1 rfl rfl 8 (by decide) (wAt hts 2 (w := .fieldLink RX1 35 "FluxBench$Finds" "plainCells" "I") rfl) (fun _ h9 => h9) rfl (by decide +kernel) rfl rfl (Nat.le_of_ble_eq_true rfl) dX1_planPlainCopy_104 (fun H locs hP hD hS => ?_)
              have hP : va_P D vwCl [(pa, .inl (kA 0, 8, .inl (upd gp pn9 (nI i)))), (h0, .inr (0, [.int (nI cd), .ref va, .ref pa, .int (nI ns), .int (nI ng), .int (nI nst), .int (nI cu), .int (nI (pn9 + 1)), .int (nI (pl9 + (10 + (u9 + 3) * cB cd + 1)))])), (va, .inl (kA 0, 72, .inl v))] H := hP
              have hD : va_D A [(pa, .inl (kA 0, 8, .inl (upd gp pn9 (nI i)))), (h0, .inr (0, [.int (nI cd), .ref va, .ref pa, .int (nI ns), .int (nI ng), .int (nI nst), .int (nI cu), .int (nI (pn9 + 1)), .int (nI (pl9 + (10 + (u9 + 3) * cB cd + 1)))])), (va, .inl (kA 0, 72, .inl v))] := hD
              refine lv_iinc (v := nI (i + 1)) (lv' := [(1, .int (nI (i + 1))), (2, .int (nI (10 + (u9 + 3) * cB cd + 1))), (0, .ref h0)]) hx hb dX1_planPlainCopy_107 hl (k := 1) rfl (nI_add i 1) (by decide) rfl (fun ls hl => ?_)
              refine lv_goto (tgt := 12) hx hb dX1_planPlainCopy_110 (by decide) ?_
              exact ih_12 (i + 1) (pn9 + 1) (pl9 + (10 + (u9 + 3) * cB cd + 1)) (upd gp pn9 (nI i)) (by omega) (by first | assumption | omega | rfl) (hq9.push (by omega) (by omega) hu1 hu2 hu3 (by omega)) (fun j hj _ => by omega) (fun _ => (cntG_pos ns).mpr ⟨i, by omega, (e_2.mp (by omega)).1⟩) (fun _ => by omega) _ _ _ (hP.sub [1, 2, 0] rfl) (hD.sub [1, 2, 0] (by decide) rfl) hS (lv_sub hl [0, 2] rfl)
            ·
              rw [qlt (a := pn9) (b := 8) (by omega) (by omega)] at c73
              have hP := hP.sub (ws' := [(h0, .inr (0, [.int (nI cd), .ref va, .ref pa, .int (nI ns), .int (nI ng), .int (nI nst), .int (nI cu), .int (nI pn9), .int (nI pl9)])), (va, .inl (kA 0, 72, .inl v)), (pa, .inl (kA 0, 8, .inl gp))]) [1, 2, 0] rfl
              have hD := hD.sub (ws' := [(h0, .inr (0, [.int (nI cd), .ref va, .ref pa, .int (nI ns), .int (nI ng), .int (nI nst), .int (nI cu), .int (nI pn9), .int (nI pl9)])), (va, .inl (kA 0, 72, .inl v)), (pa, .inl (kA 0, 8, .inl gp))]) [1, 2, 0] (by decide) rfl
              exact endV hx hb hr hlocks hK hP hD hS (⟨pn9, pl9, gp, rfl, hq9, ⟨hz2, fun _ => by first | omega | exact hpn (by omega)⟩⟩) (Nat.le_of_ble_eq_true rfl) (Nat.le_of_ble_eq_true rfl) dX1_planPlainCopy_76
        ·
          rw [qz (a := b_1) (by omega)] at c25
          refine lv_goto (tgt := 107) hx hb dX1_planPlainCopy_28 (by decide) ?_
          refine lv_iinc (v := nI (i + 1)) (lv' := [(1, .int (nI (i + 1))), (0, .ref h0)]) hx hb dX1_planPlainCopy_107 hl (k := 0) rfl (nI_add i 1) (by decide) rfl (fun ls hl => ?_)
          refine lv_goto (tgt := 12) hx hb dX1_planPlainCopy_110 (by decide) ?_
          exact ih_12 (i + 1) pn9 pl9 gp (by omega) (by first | assumption | omega | rfl) hq9 (all_s hz (fun h9 => by obtain ⟨j9, a9, b9⟩ := notFirst (fun q9 => absurd (e_2.mpr q9) (by omega)) h9; exact hz j9 a9 b9)) hz2 hpn _ _ _ (hP.sub [1, 2, 0] rfl) (hD.sub [1, 2, 0] (by decide) rfl) hS (lv_sub hl [0, 1] rfl)
  exact lp_12 (ns + 1) 0 0 0 ps (by omega) (by first | assumption | omega | rfl) (pAll.zero _ _ _ _) (fun j hj => absurd hj (by omega)) (fun h => absurd h (by omega)) (fun h => absurd h (by omega)) _ _ _ (hP.sub [0, 1, 2] rfl) (hD.sub [0, 1, 2] (by decide) rfl) hS (lv_sub hl [0, 1] rfl)

def wq_X1_keepDataAndSum : List Cond := .code yX1_keepDataAndSum cX1_keepDataAndSum 10 none :: (([.fieldLink RX1 38 "FluxBench$Finds" "code" "I", .methodLink RX1 57 yX0_cellsOfByte, .static yX0_cellsOfByte, .initialized RX0, .methodLink RX1 62 yX0_byteAt, .static yX0_byteAt, .fieldLink RX1 18 "FluxBench$Finds" "sectors" "I", .methodLink RX1 66 yX1_setValue, .instanceMethod yX1_setValue, .selects RX1 yX1_setValue yX1_setValue, .initialized RX1, .fieldLink RX1 22 "FluxBench$Finds" "goodOnes" "I"] : List Cond) ++ (u_ws RX1 TX1 9 ++ (wq_X0_cellsOfByte ++ (wq_X0_byteAt ++ (wq_X1_setValue_in ++ ([] : List Cond))))))
theorem gd_X1_keepDataAndSum : wq_X1_keepDataAndSum.all goodWord = true := by decide +kernel
theorem n_X1_keepDataAndSum_X1 : ∀ w ∈ u_ws RX1 TX1 9, w ∈ wq_X1_keepDataAndSum := fun w h => List.mem_cons_of_mem _ (List.mem_append_right _ (List.mem_append_left _ h))
theorem h_X1_keepDataAndSum_0 : GoodIn wq_X1_keepDataAndSum (va_wsS RX1 57 yX0_cellsOfByte wq_X0_cellsOfByte) := goodIn_app (goodIn_r _ [2, 3, 4] (by decide +kernel) (by decide +kernel)) (goodIn_sub (fun w h => List.mem_cons_of_mem _ (List.mem_append_right _ (List.mem_append_right _ (List.mem_append_left _ h)))) gd_X0_cellsOfByte)
theorem h_X1_keepDataAndSum_1 : GoodIn wq_X1_keepDataAndSum (va_wsS RX1 62 yX0_byteAt wq_X0_byteAt) := goodIn_app (goodIn_r _ [5, 6, 4] (by decide +kernel) (by decide +kernel)) (goodIn_sub (fun w h => List.mem_cons_of_mem _ (List.mem_append_right _ (List.mem_append_right _ (List.mem_append_right _ (List.mem_append_left _ h))))) gd_X0_byteAt)
theorem h_X1_keepDataAndSum_2 : GoodIn wq_X1_keepDataAndSum (wsV RX1 66 RX1 yX1_setValue wq_X1_setValue_in) := goodIn_app (goodIn_r _ [8, 9, 10, 11] (by decide +kernel) (by decide +kernel)) (goodIn_sub (fun w h => List.mem_cons_of_mem _ (List.mem_append_right _ (List.mem_append_right _ (List.mem_append_right _ (List.mem_append_right _ (List.mem_append_left _ h)))))) gd_X1_setValue_in)
set_option maxHeartbeats 4000000 in
set_option maxRecDepth 100000 in
theorem c_X1_keepDataAndSum (l : Launch) (D : va_G) (kA : Nat → ClassId) (z : Nat) (h0 va pa cd ns ng nst cu pn pl : Nat) (rw ra ln : Nat) (wd : Int32) (f : Nat → Int32) (dp u : Nat) (nu : Int32) (v : Nat → Int32) (h1 : ln ≤ 400) (hf : B01 f) (hns : ns < 8) (hcd : cd ≤ 2) (hdp : dp ≤ 500) (hu1 : 1 ≤ u) (hu4 : u ≤ 4) : mV l D (tyL kA) z yX1_keepDataAndSum wq_X1_keepDataAndSum ({ frames := 3, cells := 0, slots := 0, locals := 88 }) [.ref h0, .ref rw, .int (nI dp), .int nu, .int (nI u)] [(h0, .inr (0, [.int (nI cd), .ref va, .ref pa, .int (nI ns), .int (nI ng), .int (nI nst), .int (nI cu), .int (nI pn), .int (nI pl)])), (va, .inl (kA 0, 72, .inl v)), (rw, .inr (1, [.ref ra, .int (nI ln), .int wd])), (ra, .inl (kA 0, 400, .inl f))] (fun w => ∃ (gd : Nat) (v2 : Nat → Int32), w = [(h0, .inr (0, [.int (nI cd), .ref va, .ref pa, .int (nI (ns + 1)), .int (nI (ng + gd)), .int (nI nst), .int (nI cu), .int (nI pn), .int (nI pl)])), (va, .inl (kA 0, 72, .inl v2)), (rw, .inr (1, [.ref ra, .int (nI ln), .int wd])), (ra, .inl (kA 0, 400, .inl f))] ∧ (gd ≤ 1) ∧ (∀ j, j < ns * 9 + 3 → v2 j = v j) ∧ (v2 (ns * 9 + 3) = nI gd) ∧ (∀ j, j < 4 → bQ (v2 (ns * 9 + 5 + j)) ∧ (u ≤ j → v2 (ns * 9 + 5 + j) = -1))) := by
  refine ofV (cc := cX1_keepDataAndSum) (maxL := 10) RX1 rfl (by decide +kernel) rfl (Nat.le_of_ble_eq_true rfl) ?_
  intro p e s m args below meth c A ls hnm hE
  obtain ⟨hx, hb, hr, hml, hts, hown, hlocks, hA, hS, hP, hK, hD, hG, hl⟩ := hE
  have hl : lv_has ls 10 [(0, .ref h0), (1, .ref rw), (2, .int (nI dp)), (3, .int nu), (4, .int (nI u))] := hl
  have hH : s.heap = s.heap := rfl
  have hcl := cB_le cd
  refine lv_aload_n hx hb dX1_keepDataAndSum_0 rfl (lv_at hl 0 rfl) ?_
  refine va_get (D := D) (ci := 0) (v := .int (nI cd)) (C := RX1) (T := TX1) (N := 9) hx hb hts n_X1_keepDataAndSum_X1 hown hK hP 0 rfl rfl 0 (by decide) (wAt hts 1 (w := .fieldLink RX1 38 "FluxBench$Finds" "code" "I") rfl) (fun _ h9 => h9) rfl dX1_keepDataAndSum_1 ?_
  have hF := va_free (wc := []) hD hS hA [] rfl
  refine va_calli (va_runS (As := [.int (nI cd)]) (rest := []) ⟨hx, hb, hml, hown, hts⟩ (c_X0_cellsOfByte l D kA z cd (by first | assumption | omega) _) (va_cwS 1 hts h_X1_keepDataAndSum_0 rfl rfl rfl (by decide +kernel) ⟨Nat.le_of_ble_eq_true rfl, Nat.le_of_ble_eq_true rfl⟩) (fPs hK hP hD hS hG hF [] (by decide) rfl) rfl rfl hl.1 rfl (lv_room (Nat.le_of_ble_eq_true rfl)) dX1_keepDataAndSum_4 ⟨Nat.le_of_ble_eq_true rfl, Nat.le_of_ble_eq_true rfl⟩) hS (fun q _ h => hF q h) hF (fun r_1 w1 t H locs ht hvm hw hB hz1 hk1 hS => ?_)
  obtain ⟨hP, hD⟩ := fJ (wr := [(h0, .inr (0, [.int (nI cd), .ref va, .ref pa, .int (nI ns), .int (nI ng), .int (nI nst), .int (nI cu), .int (nI pn), .int (nI pl)])), (va, .inl (kA 0, 72, .inl v)), (rw, .inr (1, [.ref ra, .int (nI ln), .int wd])), (ra, .inl (kA 0, 400, .inl f))]) hP hD [] [0, 1, 2, 3] rfl rfl (by decide) (by decide) hk1 hF ht hB
  try dsimp only at hw
  obtain ⟨rfl, e_1⟩ := hw
  replace e_1 := e_1.symm
  subst e_1
  have hP : va_P D vwCl [(h0, .inr (0, [.int (nI cd), .ref va, .ref pa, .int (nI ns), .int (nI ng), .int (nI nst), .int (nI cu), .int (nI pn), .int (nI pl)])), (va, .inl (kA 0, 72, .inl v)), (rw, .inr (1, [.ref ra, .int (nI ln), .int wd])), (ra, .inl (kA 0, 400, .inl f))] H := hP
  have hD : va_D A [(h0, .inr (0, [.int (nI cd), .ref va, .ref pa, .int (nI ns), .int (nI ng), .int (nI nst), .int (nI cu), .int (nI pn), .int (nI pl)])), (va, .inl (kA 0, 72, .inl v)), (rw, .inr (1, [.ref ra, .int (nI ln), .int wd])), (ra, .inl (kA 0, 400, .inl f))] := hD
  refine lv_istore (lv' := [(5, .int (nI (cB cd))), (0, .ref h0), (1, .ref rw), (2, .int (nI dp)), (3, .int nu), (4, .int (nI u))]) hx hb dX1_keepDataAndSum_7 hl (by decide) rfl (fun ls hl => ?_)
  refine lv_iload_n hx hb dX1_keepDataAndSum_9 rfl (lv_at hl 4 rfl) ?_
  refine lv_iload hx hb dX1_keepDataAndSum_10 (lv_at hl 5 rfl) ?_
  refine lv_iadd hx hb dX1_keepDataAndSum_12 ?_
  refine lv_istore (lv' := [(6, .int (nu + (nI u))), (5, .int (nI (cB cd))), (0, .ref h0), (1, .ref rw), (2, .int (nI dp)), (3, .int nu), (4, .int (nI u))]) hx hb dX1_keepDataAndSum_13 hl (by decide) rfl (fun ls hl => ?_)
  refine lv_iconst (v := nI 1) hx hb dX1_keepDataAndSum_15 (by decide) ?_
  refine lv_istore (lv' := [(7, .int (nI 1)), (6, .int (nu + (nI u))), (5, .int (nI (cB cd))), (0, .ref h0), (1, .ref rw), (2, .int (nI dp)), (3, .int nu), (4, .int (nI u))]) hx hb dX1_keepDataAndSum_16 hl (by decide) rfl (fun ls hl => ?_)
  refine lv_iconst (v := nI 0) hx hb dX1_keepDataAndSum_18 (by decide) ?_
  refine lv_istore (lv' := [(8, .int (nI 0)), (7, .int (nI 1)), (6, .int (nu + (nI u))), (5, .int (nI (cB cd))), (0, .ref h0), (1, .ref rw), (2, .int (nI dp)), (3, .int nu), (4, .int (nI u))]) hx hb dX1_keepDataAndSum_19 hl (by decide) rfl (fun ls hl => ?_)
  have lp_21 : ∀ (n_21 : Nat) (i : Nat) (ds : Int32) (gd9 : Nat) (g : Nat → Int32), 4 - i < n_21 → (i ≤ 4) → (gd9 ≤ 1) → (∀ j, j < ns * 9 + 3 → g j = v j) → (∀ j, j < i → bQ (g (ns * 9 + 5 + j)) ∧ (u ≤ j → g (ns * 9 + 5 + j) = -1)) → ∀ (H : Heap) (locs : List Loc) (ls : Array Slot), va_P D vwCl [(h0, .inr (0, [.int (nI cd), .ref va, .ref pa, .int (nI ns), .int (nI ng), .int (nI nst), .int (nI cu), .int (nI pn), .int (nI pl)])), (va, .inl (kA 0, 72, .inl g)), (rw, .inr (1, [.ref ra, .int (nI ln), .int wd])), (ra, .inl (kA 0, 400, .inl f))] H → va_D A [(h0, .inr (0, [.int (nI cd), .ref va, .ref pa, .int (nI ns), .int (nI ng), .int (nI nst), .int (nI cu), .int (nI pn), .int (nI pl)])), (va, .inl (kA 0, 72, .inl g)), (rw, .inr (1, [.ref ra, .int (nI ln), .int wd])), (ra, .inl (kA 0, 400, .inl f))] → va_S A s.heap H locs → lv_has ls 10 [(8, .int (nI i)), (7, .int (nI gd9)), (6, .int ds), (5, .int (nI (cB cd))), (0, .ref h0), (1, .ref rw), (2, .int (nI dp)), (3, .int nu), (4, .int (nI u))] → W p l e ({ frames := 3, cells := 0, slots := 0, locals := 88 }) s m args below meth c H locs 0 0 (MQ below (va_Qv (fun w => ∃ (gd : Nat) (v2 : Nat → Int32), w = [(h0, .inr (0, [.int (nI cd), .ref va, .ref pa, .int (nI (ns + 1)), .int (nI (ng + gd)), .int (nI nst), .int (nI cu), .int (nI pn), .int (nI pl)])), (va, .inl (kA 0, 72, .inl v2)), (rw, .inr (1, [.ref ra, .int (nI ln), .int wd])), (ra, .inl (kA 0, 400, .inl f))] ∧ (gd ≤ 1) ∧ (∀ j, j < ns * 9 + 3 → v2 j = v j) ∧ (v2 (ns * 9 + 3) = nI gd) ∧ (∀ j, j < 4 → bQ (v2 (ns * 9 + 5 + j)) ∧ (u ≤ j → v2 (ns * 9 + 5 + j) = -1))) (fB D (tyL kA) A) A) args s 0 0 A) (F0 m 21 ls []) := by
    clear hP hD hS hl
    intro n_21
    induction n_21 with
    | zero =>
      intro i ds gd9 g hm_21 hi1 hg9 hk9 hd9
      exact absurd hm_21 (by omega)
    | succ n_21 ih_21 =>
      intro i ds gd9 g hm_21 hi1 hg9 hk9 hd9 H locs ls hP hD hS hl
      refine lv_iload hx hb dX1_keepDataAndSum_21 (lv_at hl 0 rfl) ?_
      refine lv_iconst (v := nI 4) hx hb dX1_keepDataAndSum_23 (by decide) ?_
      refine lv_icmp_ge (tgt := 107) hx hb dX1_keepDataAndSum_24 (by decide) (fun c24 => ?_) (fun c24 => ?_)
      ·
        rw [qle (a := 4) (b := i) (by omega) (by omega)] at c24
        refine lv_aload_n hx hb dX1_keepDataAndSum_107 rfl (lv_at hl 5 rfl) ?_
        refine lv_iload_n hx hb dX1_keepDataAndSum_108 rfl (lv_at hl 6 rfl) ?_
        refine lv_iload hx hb dX1_keepDataAndSum_109 (lv_at hl 8 rfl) ?_
        have huc : u * cB cd ≤ 4 * 16 := Nat.mul_le_mul (by omega) hcl
        refine lv_iload hx hb dX1_keepDataAndSum_111 (lv_at hl 3 rfl) ?_
        refine lv_imul hx hb dX1_keepDataAndSum_113 ?_
        rw [pk_mul u (cB cd)]
        refine lv_iadd hx hb dX1_keepDataAndSum_114 ?_
        rw [nI_add dp (u * (cB cd))]
        refine lv_aload_n hx hb dX1_keepDataAndSum_115 rfl (lv_at hl 4 rfl) ?_
        refine va_get (D := D) (ci := 0) (v := .int (nI cd)) (C := RX1) (T := TX1) (N := 9) hx hb hts n_X1_keepDataAndSum_X1 hown hK hP 0 rfl rfl 0 (by decide) (wAt hts 1 (w := .fieldLink RX1 38 "FluxBench$Finds" "code" "I") rfl) (fun _ h9 => h9) rfl dX1_keepDataAndSum_116 ?_
        have hF := va_free (wc := [(rw, .inr (1, [.ref ra, .int (nI ln), .int wd])), (ra, .inl (kA 0, 400, .inl f))]) hD hS hA [2, 3] rfl
        refine va_calli (va_runS (As := [.ref rw, .int (nI (dp + (u * (cB cd)))), .int (nI cd)]) (rest := []) ⟨hx, hb, hml, hown, hts⟩ (c_X0_byteAt l D kA z rw ra ln (dp + (u * (cB cd))) cd wd f (by first | assumption | omega) (by first | assumption | omega) (by first | assumption | omega) (by first | assumption | omega) _) (va_cwS 3 hts h_X1_keepDataAndSum_1 rfl rfl rfl (by decide +kernel) ⟨Nat.le_of_ble_eq_true rfl, Nat.le_of_ble_eq_true rfl⟩) (fPs hK hP hD hS hG hF [2, 3] (by decide) rfl) rfl rfl hl.1 rfl (lv_room (Nat.le_of_ble_eq_true rfl)) dX1_keepDataAndSum_119 ⟨Nat.le_of_ble_eq_true rfl, Nat.le_of_ble_eq_true rfl⟩) hS (fun q _ h => hF q h) hF (fun r_2 w1 t H locs ht hvm hw hB hz1 hk1 hS => ?_)
        obtain ⟨hP, hD⟩ := fJ (wr := [(h0, .inr (0, [.int (nI cd), .ref va, .ref pa, .int (nI ns), .int (nI ng), .int (nI nst), .int (nI cu), .int (nI pn), .int (nI pl)])), (va, .inl (kA 0, 72, .inl g))]) hP hD [2, 3] [0, 1] rfl rfl (by decide) (by decide) hk1 hF ht hB
        try dsimp only at hw
        obtain ⟨rfl, q_1⟩ := hw
        have hP : va_P D vwCl [(h0, .inr (0, [.int (nI cd), .ref va, .ref pa, .int (nI ns), .int (nI ng), .int (nI nst), .int (nI cu), .int (nI pn), .int (nI pl)])), (va, .inl (kA 0, 72, .inl g)), (rw, .inr (1, [.ref ra, .int (nI ln), .int wd])), (ra, .inl (kA 0, 400, .inl f))] H := hP
        have hD : va_D A [(h0, .inr (0, [.int (nI cd), .ref va, .ref pa, .int (nI ns), .int (nI ng), .int (nI nst), .int (nI cu), .int (nI pn), .int (nI pl)])), (va, .inl (kA 0, 72, .inl g)), (rw, .inr (1, [.ref ra, .int (nI ln), .int wd])), (ra, .inl (kA 0, 400, .inl f))] := hD
        refine lv_istore (lv' := [(8, .int r_2), (7, .int (nI gd9)), (6, .int ds), (5, .int (nI (cB cd))), (0, .ref h0), (1, .ref rw), (2, .int (nI dp)), (3, .int nu), (4, .int (nI u))]) hx hb dX1_keepDataAndSum_122 hl (by decide) rfl (fun ls hl => ?_)
        have jn_145 : ∀ (gd8 : Nat) (_ : True), (gd8 ≤ 1) → ∀ (H : Heap) (locs : List Loc) (ls : Array Slot), va_P D vwCl [(h0, .inr (0, [.int (nI cd), .ref va, .ref pa, .int (nI ns), .int (nI ng), .int (nI nst), .int (nI cu), .int (nI pn), .int (nI pl)])), (va, .inl (kA 0, 72, .inl g)), (rw, .inr (1, [.ref ra, .int (nI ln), .int wd])), (ra, .inl (kA 0, 400, .inl f))] H → va_D A [(h0, .inr (0, [.int (nI cd), .ref va, .ref pa, .int (nI ns), .int (nI ng), .int (nI nst), .int (nI cu), .int (nI pn), .int (nI pl)])), (va, .inl (kA 0, 72, .inl g)), (rw, .inr (1, [.ref ra, .int (nI ln), .int wd])), (ra, .inl (kA 0, 400, .inl f))] → va_S A s.heap H locs → lv_has ls 10 [(8, .int r_2), (7, .int (nI gd9)), (6, .int ds), (5, .int (nI (cB cd))), (0, .ref h0), (1, .ref rw), (2, .int (nI dp)), (3, .int nu), (4, .int (nI u))] → W p l e ({ frames := 3, cells := 0, slots := 0, locals := 88 }) s m args below meth c H locs 0 0 (MQ below (va_Qv (fun w => ∃ (gd : Nat) (v2 : Nat → Int32), w = [(h0, .inr (0, [.int (nI cd), .ref va, .ref pa, .int (nI (ns + 1)), .int (nI (ng + gd)), .int (nI nst), .int (nI cu), .int (nI pn), .int (nI pl)])), (va, .inl (kA 0, 72, .inl v2)), (rw, .inr (1, [.ref ra, .int (nI ln), .int wd])), (ra, .inl (kA 0, 400, .inl f))] ∧ (gd ≤ 1) ∧ (∀ j, j < ns * 9 + 3 → v2 j = v j) ∧ (v2 (ns * 9 + 3) = nI gd) ∧ (∀ j, j < 4 → bQ (v2 (ns * 9 + 5 + j)) ∧ (u ≤ j → v2 (ns * 9 + 5 + j) = -1))) (fB D (tyL kA) A) A) args s 0 0 A) (F0 m 145 ls [.int (nI gd8)]) := by
          clear hP hD hS hl
          intro gd8 _ hg8 H locs ls hP hD hS hl
          refine lv_istore (lv' := [(7, .int (nI gd8)), (8, .int r_2), (6, .int ds), (5, .int (nI (cB cd))), (0, .ref h0), (1, .ref rw), (2, .int (nI dp)), (3, .int nu), (4, .int (nI u))]) hx hb dX1_keepDataAndSum_145 hl (by decide) rfl (fun ls hl => ?_)
          rcases (show gd8 = 0 ∨ gd8 = 1 from by omega) with rfl | rfl
          ·
            refine lv_aload_n hx hb dX1_keepDataAndSum_147 rfl (lv_at hl 4 rfl) ?_
            refine lv_aload_n hx hb dX1_keepDataAndSum_148 rfl (lv_at hl 4 rfl) ?_
            refine va_get (D := D) (ci := 0) (v := .int (nI ns)) (C := RX1) (T := TX1) (N := 9) hx hb hts n_X1_keepDataAndSum_X1 hown hK hP 0 rfl rfl 3 (by decide) (wAt hts 7 (w := .fieldLink RX1 18 "FluxBench$Finds" "sectors" "I") rfl) (fun _ h9 => h9) rfl dX1_keepDataAndSum_149 ?_
            refine lv_iconst (v := nI 4) hx hb dX1_keepDataAndSum_152 (by decide) ?_
            refine lv_iload hx hb dX1_keepDataAndSum_153 (lv_at hl 1 rfl) ?_
            have hF := va_free (wc := [(h0, .inr (0, [.int (nI cd), .ref va, .ref pa, .int (nI ns), .int (nI ng), .int (nI nst), .int (nI cu), .int (nI pn), .int (nI pl)])), (va, .inl (kA 0, 72, .inl g))]) hD hS hA [0, 1] rfl
            refine va_callv (va_runV (As := [.int (nI ns), .int (nI 4), .int r_2]) (rest := []) ⟨hx, hb, hml, hown, hts⟩ (c_X1_setValue_in l D kA z h0 va pa cd ns ng nst cu pn pl ns 4 g r_2 (by first | assumption | omega) (by first | assumption | omega) (by first | assumption | omega) _) (cwV 3 hts h_X1_keepDataAndSum_2 rfl rfl rfl (by decide +kernel) ⟨Nat.le_of_ble_eq_true rfl, Nat.le_of_ble_eq_true rfl⟩) (fPv hK hP hD hS hG hF [0, 1] (by decide) rfl 0 0 rfl rfl rfl) rfl rfl hl.1 rfl (lv_room (Nat.le_of_ble_eq_true rfl)) dX1_keepDataAndSum_155 ⟨Nat.le_of_ble_eq_true rfl, Nat.le_of_ble_eq_true rfl⟩) hS (fun q _ h => hF q h) hF (fun w1 t H locs ht hvm hw hB hz1 hk1 hS => ?_)
            obtain ⟨hP, hD⟩ := fJ (wr := [(rw, .inr (1, [.ref ra, .int (nI ln), .int wd])), (ra, .inl (kA 0, 400, .inl f))]) hP hD [0, 1] [2, 3] rfl rfl (by decide) (by decide) hk1 hF ht hB
            try dsimp only at hw
            subst hw
            have hP : va_P D vwCl [(rw, .inr (1, [.ref ra, .int (nI ln), .int wd])), (ra, .inl (kA 0, 400, .inl f)), (h0, .inr (0, [.int (nI cd), .ref va, .ref pa, .int (nI ns), .int (nI ng), .int (nI nst), .int (nI cu), .int (nI pn), .int (nI pl)])), (va, .inl (kA 0, 72, .inl (upd g (ns * 9 + 4) r_2)))] H := hP
            have hD : va_D A [(rw, .inr (1, [.ref ra, .int (nI ln), .int wd])), (ra, .inl (kA 0, 400, .inl f)), (h0, .inr (0, [.int (nI cd), .ref va, .ref pa, .int (nI ns), .int (nI ng), .int (nI nst), .int (nI cu), .int (nI pn), .int (nI pl)])), (va, .inl (kA 0, 72, .inl (upd g (ns * 9 + 4) r_2)))] := hD
            refine lv_aload_n hx hb dX1_keepDataAndSum_158 rfl (lv_at hl 4 rfl) ?_
            refine lv_aload_n hx hb dX1_keepDataAndSum_159 rfl (lv_at hl 4 rfl) ?_
            refine va_get (D := D) (ci := 0) (v := .int (nI ns)) (C := RX1) (T := TX1) (N := 9) hx hb hts n_X1_keepDataAndSum_X1 hown hK hP 2 rfl rfl 3 (by decide) (wAt hts 7 (w := .fieldLink RX1 18 "FluxBench$Finds" "sectors" "I") rfl) (fun _ h9 => h9) rfl dX1_keepDataAndSum_160 ?_
            refine lv_iconst (v := nI 3) hx hb dX1_keepDataAndSum_163 (by decide) ?_
            refine lv_iload hx hb dX1_keepDataAndSum_164 (lv_at hl 0 rfl) ?_
            refine lv_if_eq (tgt := 173) hx hb dX1_keepDataAndSum_166 (by decide) (fun _ => ?_) (fun c166 => absurd (by decide) c166)
            refine lv_iconst (v := nI 0) hx hb dX1_keepDataAndSum_173 (by decide) ?_
            have hF := va_free (wc := [(h0, .inr (0, [.int (nI cd), .ref va, .ref pa, .int (nI ns), .int (nI ng), .int (nI nst), .int (nI cu), .int (nI pn), .int (nI pl)])), (va, .inl (kA 0, 72, .inl (upd g (ns * 9 + 4) r_2)))]) hD hS hA [2, 3] rfl
            refine va_callv (va_runV (As := [.int (nI ns), .int (nI 3), .int (nI 0)]) (rest := []) ⟨hx, hb, hml, hown, hts⟩ (c_X1_setValue_in l D kA z h0 va pa cd ns ng nst cu pn pl ns 3 (upd g (ns * 9 + 4) r_2) (nI 0) (by first | assumption | omega) (by first | assumption | omega) (by first | assumption | omega) _) (cwV 3 hts h_X1_keepDataAndSum_2 rfl rfl rfl (by decide +kernel) ⟨Nat.le_of_ble_eq_true rfl, Nat.le_of_ble_eq_true rfl⟩) (fPv hK hP hD hS hG hF [2, 3] (by decide) rfl 2 0 rfl rfl rfl) rfl rfl hl.1 rfl (lv_room (Nat.le_of_ble_eq_true rfl)) dX1_keepDataAndSum_174 ⟨Nat.le_of_ble_eq_true rfl, Nat.le_of_ble_eq_true rfl⟩) hS (fun q _ h => hF q h) hF (fun w1 t H locs ht hvm hw hB hz1 hk1 hS => ?_)
            obtain ⟨hP, hD⟩ := fJ (wr := [(rw, .inr (1, [.ref ra, .int (nI ln), .int wd])), (ra, .inl (kA 0, 400, .inl f))]) hP hD [2, 3] [0, 1] rfl rfl (by decide) (by decide) hk1 hF ht hB
            try dsimp only at hw
            subst hw
            have hP : va_P D vwCl [(rw, .inr (1, [.ref ra, .int (nI ln), .int wd])), (ra, .inl (kA 0, 400, .inl f)), (h0, .inr (0, [.int (nI cd), .ref va, .ref pa, .int (nI ns), .int (nI ng), .int (nI nst), .int (nI cu), .int (nI pn), .int (nI pl)])), (va, .inl (kA 0, 72, .inl (upd (upd g (ns * 9 + 4) r_2) (ns * 9 + 3) (nI 0))))] H := hP
            have hD : va_D A [(rw, .inr (1, [.ref ra, .int (nI ln), .int wd])), (ra, .inl (kA 0, 400, .inl f)), (h0, .inr (0, [.int (nI cd), .ref va, .ref pa, .int (nI ns), .int (nI ng), .int (nI nst), .int (nI cu), .int (nI pn), .int (nI pl)])), (va, .inl (kA 0, 72, .inl (upd (upd g (ns * 9 + 4) r_2) (ns * 9 + 3) (nI 0))))] := hD
            refine lv_aload_n hx hb dX1_keepDataAndSum_177 rfl (lv_at hl 4 rfl) ?_
            refine lv_dup hx hb dX1_keepDataAndSum_178 rfl ?_
            refine va_get (D := D) (ci := 0) (v := .int (nI ns)) (C := RX1) (T := TX1) (N := 9) hx hb hts n_X1_keepDataAndSum_X1 hown hK hP 2 rfl rfl 3 (by decide) (wAt hts 7 (w := .fieldLink RX1 18 "FluxBench$Finds" "sectors" "I") rfl) (fun _ h9 => h9) rfl dX1_keepDataAndSum_179 ?_
            refine lv_iconst (v := nI 1) hx hb dX1_keepDataAndSum_182 (by decide) ?_
            refine lv_iadd hx hb dX1_keepDataAndSum_183 ?_
            rw [nI_add ns 1]
            refine va_put (D := D) (ci := 0) (v := .int (nI (ns + 1))) (ty := .int) (C := RX1) (T := TX1) (N := 9) hx hb hts n_X1_keepDataAndSum_X1 tyX1 tyX1_ok nmX1 hown hK hP hD hS 2 rfl rfl 3 (by decide) (wAt hts 7 (w := .fieldLink RX1 18 "FluxBench$Finds" "sectors" "I") rfl) (fun _ h9 => h9) rfl (by decide +kernel) rfl rfl (Nat.le_of_ble_eq_true rfl) dX1_keepDataAndSum_184 (fun H locs hP hD hS => ?_)
            have hP : va_P D vwCl [(rw, .inr (1, [.ref ra, .int (nI ln), .int wd])), (ra, .inl (kA 0, 400, .inl f)), (h0, .inr (0, [.int (nI cd), .ref va, .ref pa, .int (nI (ns + 1)), .int (nI ng), .int (nI nst), .int (nI cu), .int (nI pn), .int (nI pl)])), (va, .inl (kA 0, 72, .inl (upd (upd g (ns * 9 + 4) r_2) (ns * 9 + 3) (nI 0))))] H := hP
            have hD : va_D A [(rw, .inr (1, [.ref ra, .int (nI ln), .int wd])), (ra, .inl (kA 0, 400, .inl f)), (h0, .inr (0, [.int (nI cd), .ref va, .ref pa, .int (nI (ns + 1)), .int (nI ng), .int (nI nst), .int (nI cu), .int (nI pn), .int (nI pl)])), (va, .inl (kA 0, 72, .inl (upd (upd g (ns * 9 + 4) r_2) (ns * 9 + 3) (nI 0))))] := hD
            refine lv_aload_n hx hb dX1_keepDataAndSum_187 rfl (lv_at hl 4 rfl) ?_
            refine lv_dup hx hb dX1_keepDataAndSum_188 rfl ?_
            refine va_get (D := D) (ci := 0) (v := .int (nI ng)) (C := RX1) (T := TX1) (N := 9) hx hb hts n_X1_keepDataAndSum_X1 hown hK hP 2 rfl rfl 4 (by decide) (wAt hts 12 (w := .fieldLink RX1 22 "FluxBench$Finds" "goodOnes" "I") rfl) (fun _ h9 => h9) rfl dX1_keepDataAndSum_189 ?_
            refine lv_iload hx hb dX1_keepDataAndSum_192 (lv_at hl 0 rfl) ?_
            refine lv_if_eq (tgt := 201) hx hb dX1_keepDataAndSum_194 (by decide) (fun _ => ?_) (fun c194 => absurd (by decide) c194)
            refine lv_iconst (v := nI 0) hx hb dX1_keepDataAndSum_201 (by decide) ?_
            refine lv_iadd hx hb dX1_keepDataAndSum_202 ?_
            rw [nI_add ng 0]
            refine va_put (D := D) (ci := 0) (v := .int (nI (ng + 0))) (ty := .int) (C := RX1) (T := TX1) (N := 9) hx hb hts n_X1_keepDataAndSum_X1 tyX1 tyX1_ok nmX1 hown hK hP hD hS 2 rfl rfl 4 (by decide) (wAt hts 12 (w := .fieldLink RX1 22 "FluxBench$Finds" "goodOnes" "I") rfl) (fun _ h9 => h9) rfl (by decide +kernel) rfl rfl (Nat.le_of_ble_eq_true rfl) dX1_keepDataAndSum_203 (fun H locs hP hD hS => ?_)
            have hP : va_P D vwCl [(rw, .inr (1, [.ref ra, .int (nI ln), .int wd])), (ra, .inl (kA 0, 400, .inl f)), (h0, .inr (0, [.int (nI cd), .ref va, .ref pa, .int (nI (ns + 1)), .int (nI (ng + 0)), .int (nI nst), .int (nI cu), .int (nI pn), .int (nI pl)])), (va, .inl (kA 0, 72, .inl (upd (upd g (ns * 9 + 4) r_2) (ns * 9 + 3) (nI 0))))] H := hP
            have hD : va_D A [(rw, .inr (1, [.ref ra, .int (nI ln), .int wd])), (ra, .inl (kA 0, 400, .inl f)), (h0, .inr (0, [.int (nI cd), .ref va, .ref pa, .int (nI (ns + 1)), .int (nI (ng + 0)), .int (nI nst), .int (nI cu), .int (nI pn), .int (nI pl)])), (va, .inl (kA 0, 72, .inl (upd (upd g (ns * 9 + 4) r_2) (ns * 9 + 3) (nI 0))))] := hD
            have hP := hP.sub (ws' := [(h0, .inr (0, [.int (nI cd), .ref va, .ref pa, .int (nI (ns + 1)), .int (nI (ng + 0)), .int (nI nst), .int (nI cu), .int (nI pn), .int (nI pl)])), (va, .inl (kA 0, 72, .inl (upd (upd g (ns * 9 + 4) r_2) (ns * 9 + 3) (nI 0)))), (rw, .inr (1, [.ref ra, .int (nI ln), .int wd])), (ra, .inl (kA 0, 400, .inl f))]) [2, 3, 0, 1] rfl
            have hD := hD.sub (ws' := [(h0, .inr (0, [.int (nI cd), .ref va, .ref pa, .int (nI (ns + 1)), .int (nI (ng + 0)), .int (nI nst), .int (nI cu), .int (nI pn), .int (nI pl)])), (va, .inl (kA 0, 72, .inl (upd (upd g (ns * 9 + 4) r_2) (ns * 9 + 3) (nI 0)))), (rw, .inr (1, [.ref ra, .int (nI ln), .int wd])), (ra, .inl (kA 0, 400, .inl f))]) [2, 3, 0, 1] (by decide) rfl
            exact endV hx hb hr hlocks hK hP hD hS (⟨0, (upd (upd g (ns * 9 + 4) r_2) (ns * 9 + 3) (nI 0)), rfl, by first | rfl | assumption | omega | (rw [if_pos (by omega)]; first | done | rfl) | (rw [if_neg (by omega)]; first | done | rfl), by intro j hj; rw [upd_ne _ _ (by omega), upd_ne _ _ (by omega)]; exact hk9 j hj, upd_at _ _ _, by intro j hj; rw [upd_ne _ _ (by omega), upd_ne _ _ (by omega)]; exact hd9 j (by omega)⟩) (Nat.le_of_ble_eq_true rfl) (Nat.le_of_ble_eq_true rfl) dX1_keepDataAndSum_206
          ·
            refine lv_aload_n hx hb dX1_keepDataAndSum_147 rfl (lv_at hl 4 rfl) ?_
            refine lv_aload_n hx hb dX1_keepDataAndSum_148 rfl (lv_at hl 4 rfl) ?_
            refine va_get (D := D) (ci := 0) (v := .int (nI ns)) (C := RX1) (T := TX1) (N := 9) hx hb hts n_X1_keepDataAndSum_X1 hown hK hP 0 rfl rfl 3 (by decide) (wAt hts 7 (w := .fieldLink RX1 18 "FluxBench$Finds" "sectors" "I") rfl) (fun _ h9 => h9) rfl dX1_keepDataAndSum_149 ?_
            refine lv_iconst (v := nI 4) hx hb dX1_keepDataAndSum_152 (by decide) ?_
            refine lv_iload hx hb dX1_keepDataAndSum_153 (lv_at hl 1 rfl) ?_
            have hF := va_free (wc := [(h0, .inr (0, [.int (nI cd), .ref va, .ref pa, .int (nI ns), .int (nI ng), .int (nI nst), .int (nI cu), .int (nI pn), .int (nI pl)])), (va, .inl (kA 0, 72, .inl g))]) hD hS hA [0, 1] rfl
            refine va_callv (va_runV (As := [.int (nI ns), .int (nI 4), .int r_2]) (rest := []) ⟨hx, hb, hml, hown, hts⟩ (c_X1_setValue_in l D kA z h0 va pa cd ns ng nst cu pn pl ns 4 g r_2 (by first | assumption | omega) (by first | assumption | omega) (by first | assumption | omega) _) (cwV 3 hts h_X1_keepDataAndSum_2 rfl rfl rfl (by decide +kernel) ⟨Nat.le_of_ble_eq_true rfl, Nat.le_of_ble_eq_true rfl⟩) (fPv hK hP hD hS hG hF [0, 1] (by decide) rfl 0 0 rfl rfl rfl) rfl rfl hl.1 rfl (lv_room (Nat.le_of_ble_eq_true rfl)) dX1_keepDataAndSum_155 ⟨Nat.le_of_ble_eq_true rfl, Nat.le_of_ble_eq_true rfl⟩) hS (fun q _ h => hF q h) hF (fun w1 t H locs ht hvm hw hB hz1 hk1 hS => ?_)
            obtain ⟨hP, hD⟩ := fJ (wr := [(rw, .inr (1, [.ref ra, .int (nI ln), .int wd])), (ra, .inl (kA 0, 400, .inl f))]) hP hD [0, 1] [2, 3] rfl rfl (by decide) (by decide) hk1 hF ht hB
            try dsimp only at hw
            subst hw
            have hP : va_P D vwCl [(rw, .inr (1, [.ref ra, .int (nI ln), .int wd])), (ra, .inl (kA 0, 400, .inl f)), (h0, .inr (0, [.int (nI cd), .ref va, .ref pa, .int (nI ns), .int (nI ng), .int (nI nst), .int (nI cu), .int (nI pn), .int (nI pl)])), (va, .inl (kA 0, 72, .inl (upd g (ns * 9 + 4) r_2)))] H := hP
            have hD : va_D A [(rw, .inr (1, [.ref ra, .int (nI ln), .int wd])), (ra, .inl (kA 0, 400, .inl f)), (h0, .inr (0, [.int (nI cd), .ref va, .ref pa, .int (nI ns), .int (nI ng), .int (nI nst), .int (nI cu), .int (nI pn), .int (nI pl)])), (va, .inl (kA 0, 72, .inl (upd g (ns * 9 + 4) r_2)))] := hD
            refine lv_aload_n hx hb dX1_keepDataAndSum_158 rfl (lv_at hl 4 rfl) ?_
            refine lv_aload_n hx hb dX1_keepDataAndSum_159 rfl (lv_at hl 4 rfl) ?_
            refine va_get (D := D) (ci := 0) (v := .int (nI ns)) (C := RX1) (T := TX1) (N := 9) hx hb hts n_X1_keepDataAndSum_X1 hown hK hP 2 rfl rfl 3 (by decide) (wAt hts 7 (w := .fieldLink RX1 18 "FluxBench$Finds" "sectors" "I") rfl) (fun _ h9 => h9) rfl dX1_keepDataAndSum_160 ?_
            refine lv_iconst (v := nI 3) hx hb dX1_keepDataAndSum_163 (by decide) ?_
            refine lv_iload hx hb dX1_keepDataAndSum_164 (lv_at hl 0 rfl) ?_
            refine lv_if_eq (tgt := 173) hx hb dX1_keepDataAndSum_166 (by decide) (fun c166 => absurd c166 (by decide)) (fun _ => ?_)
            refine lv_iconst (v := nI 1) hx hb dX1_keepDataAndSum_169 (by decide) ?_
            refine lv_goto (tgt := 174) hx hb dX1_keepDataAndSum_170 (by decide) ?_
            have hF := va_free (wc := [(h0, .inr (0, [.int (nI cd), .ref va, .ref pa, .int (nI ns), .int (nI ng), .int (nI nst), .int (nI cu), .int (nI pn), .int (nI pl)])), (va, .inl (kA 0, 72, .inl (upd g (ns * 9 + 4) r_2)))]) hD hS hA [2, 3] rfl
            refine va_callv (va_runV (As := [.int (nI ns), .int (nI 3), .int (nI 1)]) (rest := []) ⟨hx, hb, hml, hown, hts⟩ (c_X1_setValue_in l D kA z h0 va pa cd ns ng nst cu pn pl ns 3 (upd g (ns * 9 + 4) r_2) (nI 1) (by first | assumption | omega) (by first | assumption | omega) (by first | assumption | omega) _) (cwV 3 hts h_X1_keepDataAndSum_2 rfl rfl rfl (by decide +kernel) ⟨Nat.le_of_ble_eq_true rfl, Nat.le_of_ble_eq_true rfl⟩) (fPv hK hP hD hS hG hF [2, 3] (by decide) rfl 2 0 rfl rfl rfl) rfl rfl hl.1 rfl (lv_room (Nat.le_of_ble_eq_true rfl)) dX1_keepDataAndSum_174 ⟨Nat.le_of_ble_eq_true rfl, Nat.le_of_ble_eq_true rfl⟩) hS (fun q _ h => hF q h) hF (fun w1 t H locs ht hvm hw hB hz1 hk1 hS => ?_)
            obtain ⟨hP, hD⟩ := fJ (wr := [(rw, .inr (1, [.ref ra, .int (nI ln), .int wd])), (ra, .inl (kA 0, 400, .inl f))]) hP hD [2, 3] [0, 1] rfl rfl (by decide) (by decide) hk1 hF ht hB
            try dsimp only at hw
            subst hw
            have hP : va_P D vwCl [(rw, .inr (1, [.ref ra, .int (nI ln), .int wd])), (ra, .inl (kA 0, 400, .inl f)), (h0, .inr (0, [.int (nI cd), .ref va, .ref pa, .int (nI ns), .int (nI ng), .int (nI nst), .int (nI cu), .int (nI pn), .int (nI pl)])), (va, .inl (kA 0, 72, .inl (upd (upd g (ns * 9 + 4) r_2) (ns * 9 + 3) (nI 1))))] H := hP
            have hD : va_D A [(rw, .inr (1, [.ref ra, .int (nI ln), .int wd])), (ra, .inl (kA 0, 400, .inl f)), (h0, .inr (0, [.int (nI cd), .ref va, .ref pa, .int (nI ns), .int (nI ng), .int (nI nst), .int (nI cu), .int (nI pn), .int (nI pl)])), (va, .inl (kA 0, 72, .inl (upd (upd g (ns * 9 + 4) r_2) (ns * 9 + 3) (nI 1))))] := hD
            refine lv_aload_n hx hb dX1_keepDataAndSum_177 rfl (lv_at hl 4 rfl) ?_
            refine lv_dup hx hb dX1_keepDataAndSum_178 rfl ?_
            refine va_get (D := D) (ci := 0) (v := .int (nI ns)) (C := RX1) (T := TX1) (N := 9) hx hb hts n_X1_keepDataAndSum_X1 hown hK hP 2 rfl rfl 3 (by decide) (wAt hts 7 (w := .fieldLink RX1 18 "FluxBench$Finds" "sectors" "I") rfl) (fun _ h9 => h9) rfl dX1_keepDataAndSum_179 ?_
            refine lv_iconst (v := nI 1) hx hb dX1_keepDataAndSum_182 (by decide) ?_
            refine lv_iadd hx hb dX1_keepDataAndSum_183 ?_
            rw [nI_add ns 1]
            refine va_put (D := D) (ci := 0) (v := .int (nI (ns + 1))) (ty := .int) (C := RX1) (T := TX1) (N := 9) hx hb hts n_X1_keepDataAndSum_X1 tyX1 tyX1_ok nmX1 hown hK hP hD hS 2 rfl rfl 3 (by decide) (wAt hts 7 (w := .fieldLink RX1 18 "FluxBench$Finds" "sectors" "I") rfl) (fun _ h9 => h9) rfl (by decide +kernel) rfl rfl (Nat.le_of_ble_eq_true rfl) dX1_keepDataAndSum_184 (fun H locs hP hD hS => ?_)
            have hP : va_P D vwCl [(rw, .inr (1, [.ref ra, .int (nI ln), .int wd])), (ra, .inl (kA 0, 400, .inl f)), (h0, .inr (0, [.int (nI cd), .ref va, .ref pa, .int (nI (ns + 1)), .int (nI ng), .int (nI nst), .int (nI cu), .int (nI pn), .int (nI pl)])), (va, .inl (kA 0, 72, .inl (upd (upd g (ns * 9 + 4) r_2) (ns * 9 + 3) (nI 1))))] H := hP
            have hD : va_D A [(rw, .inr (1, [.ref ra, .int (nI ln), .int wd])), (ra, .inl (kA 0, 400, .inl f)), (h0, .inr (0, [.int (nI cd), .ref va, .ref pa, .int (nI (ns + 1)), .int (nI ng), .int (nI nst), .int (nI cu), .int (nI pn), .int (nI pl)])), (va, .inl (kA 0, 72, .inl (upd (upd g (ns * 9 + 4) r_2) (ns * 9 + 3) (nI 1))))] := hD
            refine lv_aload_n hx hb dX1_keepDataAndSum_187 rfl (lv_at hl 4 rfl) ?_
            refine lv_dup hx hb dX1_keepDataAndSum_188 rfl ?_
            refine va_get (D := D) (ci := 0) (v := .int (nI ng)) (C := RX1) (T := TX1) (N := 9) hx hb hts n_X1_keepDataAndSum_X1 hown hK hP 2 rfl rfl 4 (by decide) (wAt hts 12 (w := .fieldLink RX1 22 "FluxBench$Finds" "goodOnes" "I") rfl) (fun _ h9 => h9) rfl dX1_keepDataAndSum_189 ?_
            refine lv_iload hx hb dX1_keepDataAndSum_192 (lv_at hl 0 rfl) ?_
            refine lv_if_eq (tgt := 201) hx hb dX1_keepDataAndSum_194 (by decide) (fun c194 => absurd c194 (by decide)) (fun _ => ?_)
            refine lv_iconst (v := nI 1) hx hb dX1_keepDataAndSum_197 (by decide) ?_
            refine lv_goto (tgt := 202) hx hb dX1_keepDataAndSum_198 (by decide) ?_
            refine lv_iadd hx hb dX1_keepDataAndSum_202 ?_
            rw [nI_add ng 1]
            refine va_put (D := D) (ci := 0) (v := .int (nI (ng + 1))) (ty := .int) (C := RX1) (T := TX1) (N := 9) hx hb hts n_X1_keepDataAndSum_X1 tyX1 tyX1_ok nmX1 hown hK hP hD hS 2 rfl rfl 4 (by decide) (wAt hts 12 (w := .fieldLink RX1 22 "FluxBench$Finds" "goodOnes" "I") rfl) (fun _ h9 => h9) rfl (by decide +kernel) rfl rfl (Nat.le_of_ble_eq_true rfl) dX1_keepDataAndSum_203 (fun H locs hP hD hS => ?_)
            have hP : va_P D vwCl [(rw, .inr (1, [.ref ra, .int (nI ln), .int wd])), (ra, .inl (kA 0, 400, .inl f)), (h0, .inr (0, [.int (nI cd), .ref va, .ref pa, .int (nI (ns + 1)), .int (nI (ng + 1)), .int (nI nst), .int (nI cu), .int (nI pn), .int (nI pl)])), (va, .inl (kA 0, 72, .inl (upd (upd g (ns * 9 + 4) r_2) (ns * 9 + 3) (nI 1))))] H := hP
            have hD : va_D A [(rw, .inr (1, [.ref ra, .int (nI ln), .int wd])), (ra, .inl (kA 0, 400, .inl f)), (h0, .inr (0, [.int (nI cd), .ref va, .ref pa, .int (nI (ns + 1)), .int (nI (ng + 1)), .int (nI nst), .int (nI cu), .int (nI pn), .int (nI pl)])), (va, .inl (kA 0, 72, .inl (upd (upd g (ns * 9 + 4) r_2) (ns * 9 + 3) (nI 1))))] := hD
            have hP := hP.sub (ws' := [(h0, .inr (0, [.int (nI cd), .ref va, .ref pa, .int (nI (ns + 1)), .int (nI (ng + 1)), .int (nI nst), .int (nI cu), .int (nI pn), .int (nI pl)])), (va, .inl (kA 0, 72, .inl (upd (upd g (ns * 9 + 4) r_2) (ns * 9 + 3) (nI 1)))), (rw, .inr (1, [.ref ra, .int (nI ln), .int wd])), (ra, .inl (kA 0, 400, .inl f))]) [2, 3, 0, 1] rfl
            have hD := hD.sub (ws' := [(h0, .inr (0, [.int (nI cd), .ref va, .ref pa, .int (nI (ns + 1)), .int (nI (ng + 1)), .int (nI nst), .int (nI cu), .int (nI pn), .int (nI pl)])), (va, .inl (kA 0, 72, .inl (upd (upd g (ns * 9 + 4) r_2) (ns * 9 + 3) (nI 1)))), (rw, .inr (1, [.ref ra, .int (nI ln), .int wd])), (ra, .inl (kA 0, 400, .inl f))]) [2, 3, 0, 1] (by decide) rfl
            exact endV hx hb hr hlocks hK hP hD hS (⟨1, (upd (upd g (ns * 9 + 4) r_2) (ns * 9 + 3) (nI 1)), rfl, by first | rfl | assumption | omega | (rw [if_pos (by omega)]; first | done | rfl) | (rw [if_neg (by omega)]; first | done | rfl), by intro j hj; rw [upd_ne _ _ (by omega), upd_ne _ _ (by omega)]; exact hk9 j hj, upd_at _ _ _, by intro j hj; rw [upd_ne _ _ (by omega), upd_ne _ _ (by omega)]; exact hd9 j (by omega)⟩) (Nat.le_of_ble_eq_true rfl) (Nat.le_of_ble_eq_true rfl) dX1_keepDataAndSum_206
        refine lv_iload hx hb dX1_keepDataAndSum_124 (lv_at hl 1 rfl) ?_
        refine lv_if_eq (tgt := 144) hx hb dX1_keepDataAndSum_126 (by decide) (fun c126 => ?_) (fun c126 => ?_)
        ·
          rw [qz (a := gd9) (by omega)] at c126
          refine lv_iconst (v := nI 0) hx hb dX1_keepDataAndSum_144 (by decide) ?_
          exact jn_145 0 trivial (by first | assumption | omega | rfl) _ _ _ (hP.sub [0, 1, 2, 3] rfl) (hD.sub [0, 1, 2, 3] (by decide) rfl) hS (lv_sub hl [0, 1, 2, 3, 4, 5, 6, 7, 8] rfl)
        ·
          rw [qz (a := gd9) (by omega)] at c126
          refine lv_iload hx hb dX1_keepDataAndSum_129 (lv_at hl 0 rfl) ?_
          refine lv_iload hx hb dX1_keepDataAndSum_131 (lv_at hl 2 rfl) ?_
          refine lv_sipush (v := nI 256) hx hb dX1_keepDataAndSum_133 (by decide) ?_
          refine lv_irem hx hb dX1_keepDataAndSum_136 (by decide) ?_
          refine lv_icmp_ne (tgt := 144) hx hb dX1_keepDataAndSum_137 (by decide) (fun c137 => ?_) (fun c137 => ?_)
          ·
            refine lv_iconst (v := nI 0) hx hb dX1_keepDataAndSum_144 (by decide) ?_
            exact jn_145 0 trivial (by first | assumption | omega | rfl) _ _ _ (hP.sub [0, 1, 2, 3] rfl) (hD.sub [0, 1, 2, 3] (by decide) rfl) hS (lv_sub hl [0, 1, 2, 3, 4, 5, 6, 7, 8] rfl)
          ·
            refine lv_iconst (v := nI 1) hx hb dX1_keepDataAndSum_140 (by decide) ?_
            refine lv_goto (tgt := 145) hx hb dX1_keepDataAndSum_141 (by decide) ?_
            exact jn_145 1 trivial (by first | assumption | omega | rfl) _ _ _ (hP.sub [0, 1, 2, 3] rfl) (hD.sub [0, 1, 2, 3] (by decide) rfl) hS (lv_sub hl [0, 1, 2, 3, 4, 5, 6, 7, 8] rfl)
      ·
        rw [qle (a := 4) (b := i) (by omega) (by omega)] at c24
        have jn_53 : ∀ (x9 : Int32) (_ : True), (bQ x9 ∧ (u ≤ i → x9 = -1)) → ∀ (H : Heap) (locs : List Loc) (ls : Array Slot), va_P D vwCl [(h0, .inr (0, [.int (nI cd), .ref va, .ref pa, .int (nI ns), .int (nI ng), .int (nI nst), .int (nI cu), .int (nI pn), .int (nI pl)])), (va, .inl (kA 0, 72, .inl g)), (rw, .inr (1, [.ref ra, .int (nI ln), .int wd])), (ra, .inl (kA 0, 400, .inl f))] H → va_D A [(h0, .inr (0, [.int (nI cd), .ref va, .ref pa, .int (nI ns), .int (nI ng), .int (nI nst), .int (nI cu), .int (nI pn), .int (nI pl)])), (va, .inl (kA 0, 72, .inl g)), (rw, .inr (1, [.ref ra, .int (nI ln), .int wd])), (ra, .inl (kA 0, 400, .inl f))] → va_S A s.heap H locs → lv_has ls 10 [(8, .int (nI i)), (7, .int (nI gd9)), (6, .int ds), (5, .int (nI (cB cd))), (0, .ref h0), (1, .ref rw), (2, .int (nI dp)), (3, .int nu), (4, .int (nI u))] → W p l e ({ frames := 3, cells := 0, slots := 0, locals := 88 }) s m args below meth c H locs 0 0 (MQ below (va_Qv (fun w => ∃ (gd : Nat) (v2 : Nat → Int32), w = [(h0, .inr (0, [.int (nI cd), .ref va, .ref pa, .int (nI (ns + 1)), .int (nI (ng + gd)), .int (nI nst), .int (nI cu), .int (nI pn), .int (nI pl)])), (va, .inl (kA 0, 72, .inl v2)), (rw, .inr (1, [.ref ra, .int (nI ln), .int wd])), (ra, .inl (kA 0, 400, .inl f))] ∧ (gd ≤ 1) ∧ (∀ j, j < ns * 9 + 3 → v2 j = v j) ∧ (v2 (ns * 9 + 3) = nI gd) ∧ (∀ j, j < 4 → bQ (v2 (ns * 9 + 5 + j)) ∧ (u ≤ j → v2 (ns * 9 + 5 + j) = -1))) (fB D (tyL kA) A) A) args s 0 0 A) (F0 m 53 ls [.int x9]) := by
          clear hP hD hS hl
          intro x9 _ hx9 H locs ls hP hD hS hl
          refine lv_istore (lv' := [(9, .int x9), (8, .int (nI i)), (7, .int (nI gd9)), (6, .int ds), (5, .int (nI (cB cd))), (0, .ref h0), (1, .ref rw), (2, .int (nI dp)), (3, .int nu), (4, .int (nI u))]) hx hb dX1_keepDataAndSum_53 hl (by decide) rfl (fun ls hl => ?_)
          refine lv_aload_n hx hb dX1_keepDataAndSum_55 rfl (lv_at hl 5 rfl) ?_
          refine lv_aload_n hx hb dX1_keepDataAndSum_56 rfl (lv_at hl 5 rfl) ?_
          refine va_get (D := D) (ci := 0) (v := .int (nI ns)) (C := RX1) (T := TX1) (N := 9) hx hb hts n_X1_keepDataAndSum_X1 hown hK hP 0 rfl rfl 3 (by decide) (wAt hts 7 (w := .fieldLink RX1 18 "FluxBench$Finds" "sectors" "I") rfl) (fun _ h9 => h9) rfl dX1_keepDataAndSum_57 ?_
          refine lv_iconst (v := nI 5) hx hb dX1_keepDataAndSum_60 (by decide) ?_
          refine lv_iload hx hb dX1_keepDataAndSum_61 (lv_at hl 1 rfl) ?_
          refine lv_iadd hx hb dX1_keepDataAndSum_63 ?_
          rw [nI_add 5 i]
          refine lv_iload hx hb dX1_keepDataAndSum_64 (lv_at hl 0 rfl) ?_
          have hF := va_free (wc := [(h0, .inr (0, [.int (nI cd), .ref va, .ref pa, .int (nI ns), .int (nI ng), .int (nI nst), .int (nI cu), .int (nI pn), .int (nI pl)])), (va, .inl (kA 0, 72, .inl g))]) hD hS hA [0, 1] rfl
          refine va_callv (va_runV (As := [.int (nI ns), .int (nI (5 + i)), .int x9]) (rest := []) ⟨hx, hb, hml, hown, hts⟩ (c_X1_setValue_in l D kA z h0 va pa cd ns ng nst cu pn pl ns (5 + i) g x9 (by first | assumption | omega) (by first | assumption | omega) (by first | assumption | omega) _) (cwV 3 hts h_X1_keepDataAndSum_2 rfl rfl rfl (by decide +kernel) ⟨Nat.le_of_ble_eq_true rfl, Nat.le_of_ble_eq_true rfl⟩) (fPv hK hP hD hS hG hF [0, 1] (by decide) rfl 0 0 rfl rfl rfl) rfl rfl hl.1 rfl (lv_room (Nat.le_of_ble_eq_true rfl)) dX1_keepDataAndSum_66 ⟨Nat.le_of_ble_eq_true rfl, Nat.le_of_ble_eq_true rfl⟩) hS (fun q _ h => hF q h) hF (fun w1 t H locs ht hvm hw hB hz1 hk1 hS => ?_)
          obtain ⟨hP, hD⟩ := fJ (wr := [(rw, .inr (1, [.ref ra, .int (nI ln), .int wd])), (ra, .inl (kA 0, 400, .inl f))]) hP hD [0, 1] [2, 3] rfl rfl (by decide) (by decide) hk1 hF ht hB
          try dsimp only at hw
          subst hw
          have hP : va_P D vwCl [(rw, .inr (1, [.ref ra, .int (nI ln), .int wd])), (ra, .inl (kA 0, 400, .inl f)), (h0, .inr (0, [.int (nI cd), .ref va, .ref pa, .int (nI ns), .int (nI ng), .int (nI nst), .int (nI cu), .int (nI pn), .int (nI pl)])), (va, .inl (kA 0, 72, .inl (upd g (ns * 9 + (5 + i)) x9)))] H := hP
          have hD : va_D A [(rw, .inr (1, [.ref ra, .int (nI ln), .int wd])), (ra, .inl (kA 0, 400, .inl f)), (h0, .inr (0, [.int (nI cd), .ref va, .ref pa, .int (nI ns), .int (nI ng), .int (nI nst), .int (nI cu), .int (nI pn), .int (nI pl)])), (va, .inl (kA 0, 72, .inl (upd g (ns * 9 + (5 + i)) x9)))] := hD
          refine lv_iload hx hb dX1_keepDataAndSum_69 (lv_at hl 1 rfl) ?_
          refine lv_iload hx hb dX1_keepDataAndSum_71 (lv_at hl 9 rfl) ?_
          refine lv_icmp_ge (tgt := 101) hx hb dX1_keepDataAndSum_73 (by decide) (fun c73 => ?_) (fun c73 => ?_)
          ·
            rw [qle (a := u) (b := i) (by omega) (by omega)] at c73
            refine lv_iinc (v := nI (i + 1)) (lv' := [(8, .int (nI (i + 1))), (9, .int x9), (7, .int (nI gd9)), (6, .int ds), (5, .int (nI (cB cd))), (0, .ref h0), (1, .ref rw), (2, .int (nI dp)), (3, .int nu), (4, .int (nI u))]) hx hb dX1_keepDataAndSum_101 hl (k := 1) rfl (nI_add i 1) (by decide) rfl (fun ls hl => ?_)
            refine lv_goto (tgt := 21) hx hb dX1_keepDataAndSum_104 (by decide) ?_
            exact ih_21 (i + 1) ds gd9 (upd g (ns * 9 + (5 + i)) x9) (by omega) (by first | assumption | omega | rfl) (by first | assumption | omega | rfl) (fun j hj => (upd_ne _ _ (by omega)).trans (hk9 j hj)) (kd_s hd9 hx9) _ _ _ (hP.sub [2, 3, 0, 1] rfl) (hD.sub [2, 3, 0, 1] (by decide) rfl) hS (lv_sub hl [0, 2, 3, 4, 5, 6, 7, 8, 9] rfl)
          ·
            rw [qle (a := u) (b := i) (by omega) (by omega)] at c73
            refine lv_iload hx hb dX1_keepDataAndSum_76 (lv_at hl 3 rfl) ?_
            refine lv_iload hx hb dX1_keepDataAndSum_78 (lv_at hl 0 rfl) ?_
            refine lv_iadd hx hb dX1_keepDataAndSum_80 ?_
            refine lv_istore (lv' := [(6, .int (ds + x9)), (9, .int x9), (8, .int (nI i)), (7, .int (nI gd9)), (5, .int (nI (cB cd))), (0, .ref h0), (1, .ref rw), (2, .int (nI dp)), (3, .int nu), (4, .int (nI u))]) hx hb dX1_keepDataAndSum_81 hl (by decide) rfl (fun ls hl => ?_)
            refine lv_iload hx hb dX1_keepDataAndSum_83 (lv_at hl 3 rfl) ?_
            refine lv_if_eq (tgt := 98) hx hb dX1_keepDataAndSum_85 (by decide) (fun c85 => ?_) (fun c85 => ?_)
            ·
              rw [qz (a := gd9) (by omega)] at c85
              refine lv_iconst (v := nI 0) hx hb dX1_keepDataAndSum_98 (by decide) ?_
              refine lv_istore (lv' := [(7, .int (nI 0)), (6, .int (ds + x9)), (9, .int x9), (8, .int (nI i)), (5, .int (nI (cB cd))), (0, .ref h0), (1, .ref rw), (2, .int (nI dp)), (3, .int nu), (4, .int (nI u))]) hx hb dX1_keepDataAndSum_99 hl (by decide) rfl (fun ls hl => ?_)
              refine lv_iinc (v := nI (i + 1)) (lv' := [(8, .int (nI (i + 1))), (7, .int (nI 0)), (6, .int (ds + x9)), (9, .int x9), (5, .int (nI (cB cd))), (0, .ref h0), (1, .ref rw), (2, .int (nI dp)), (3, .int nu), (4, .int (nI u))]) hx hb dX1_keepDataAndSum_101 hl (k := 3) rfl (nI_add i 1) (by decide) rfl (fun ls hl => ?_)
              refine lv_goto (tgt := 21) hx hb dX1_keepDataAndSum_104 (by decide) ?_
              exact ih_21 (i + 1) (ds + x9) 0 (upd g (ns * 9 + (5 + i)) x9) (by omega) (by first | assumption | omega | rfl) (by first | assumption | omega | rfl) (fun j hj => (upd_ne _ _ (by omega)).trans (hk9 j hj)) (kd_s hd9 hx9) _ _ _ (hP.sub [2, 3, 0, 1] rfl) (hD.sub [2, 3, 0, 1] (by decide) rfl) hS (lv_sub hl [0, 1, 2, 4, 5, 6, 7, 8, 9] rfl)
            ·
              rw [qz (a := gd9) (by omega)] at c85
              refine lv_iload hx hb dX1_keepDataAndSum_88 (lv_at hl 1 rfl) ?_
              refine lv_iconst (v := -1) hx hb dX1_keepDataAndSum_90 (by decide) ?_
              refine lv_icmp_eq (tgt := 98) hx hb dX1_keepDataAndSum_91 (by decide) (fun c91 => ?_) (fun c91 => ?_)
              ·
                refine lv_iconst (v := nI 0) hx hb dX1_keepDataAndSum_98 (by decide) ?_
                refine lv_istore (lv' := [(7, .int (nI 0)), (6, .int (ds + x9)), (9, .int x9), (8, .int (nI i)), (5, .int (nI (cB cd))), (0, .ref h0), (1, .ref rw), (2, .int (nI dp)), (3, .int nu), (4, .int (nI u))]) hx hb dX1_keepDataAndSum_99 hl (by decide) rfl (fun ls hl => ?_)
                refine lv_iinc (v := nI (i + 1)) (lv' := [(8, .int (nI (i + 1))), (7, .int (nI 0)), (6, .int (ds + x9)), (9, .int x9), (5, .int (nI (cB cd))), (0, .ref h0), (1, .ref rw), (2, .int (nI dp)), (3, .int nu), (4, .int (nI u))]) hx hb dX1_keepDataAndSum_101 hl (k := 3) rfl (nI_add i 1) (by decide) rfl (fun ls hl => ?_)
                refine lv_goto (tgt := 21) hx hb dX1_keepDataAndSum_104 (by decide) ?_
                exact ih_21 (i + 1) (ds + x9) 0 (upd g (ns * 9 + (5 + i)) x9) (by omega) (by first | assumption | omega | rfl) (by first | assumption | omega | rfl) (fun j hj => (upd_ne _ _ (by omega)).trans (hk9 j hj)) (kd_s hd9 hx9) _ _ _ (hP.sub [2, 3, 0, 1] rfl) (hD.sub [2, 3, 0, 1] (by decide) rfl) hS (lv_sub hl [0, 1, 2, 4, 5, 6, 7, 8, 9] rfl)
              ·
                refine lv_iconst (v := nI 1) hx hb dX1_keepDataAndSum_94 (by decide) ?_
                refine lv_goto (tgt := 99) hx hb dX1_keepDataAndSum_95 (by decide) ?_
                refine lv_istore (lv' := [(7, .int (nI 1)), (6, .int (ds + x9)), (9, .int x9), (8, .int (nI i)), (5, .int (nI (cB cd))), (0, .ref h0), (1, .ref rw), (2, .int (nI dp)), (3, .int nu), (4, .int (nI u))]) hx hb dX1_keepDataAndSum_99 hl (by decide) rfl (fun ls hl => ?_)
                refine lv_iinc (v := nI (i + 1)) (lv' := [(8, .int (nI (i + 1))), (7, .int (nI 1)), (6, .int (ds + x9)), (9, .int x9), (5, .int (nI (cB cd))), (0, .ref h0), (1, .ref rw), (2, .int (nI dp)), (3, .int nu), (4, .int (nI u))]) hx hb dX1_keepDataAndSum_101 hl (k := 3) rfl (nI_add i 1) (by decide) rfl (fun ls hl => ?_)
                refine lv_goto (tgt := 21) hx hb dX1_keepDataAndSum_104 (by decide) ?_
                exact ih_21 (i + 1) (ds + x9) 1 (upd g (ns * 9 + (5 + i)) x9) (by omega) (by first | assumption | omega | rfl) (by first | assumption | omega | rfl) (fun j hj => (upd_ne _ _ (by omega)).trans (hk9 j hj)) (kd_s hd9 hx9) _ _ _ (hP.sub [2, 3, 0, 1] rfl) (hD.sub [2, 3, 0, 1] (by decide) rfl) hS (lv_sub hl [0, 1, 2, 4, 5, 6, 7, 8, 9] rfl)
        refine lv_iload hx hb dX1_keepDataAndSum_27 (lv_at hl 0 rfl) ?_
        refine lv_iload hx hb dX1_keepDataAndSum_29 (lv_at hl 8 rfl) ?_
        refine lv_icmp_ge (tgt := 52) hx hb dX1_keepDataAndSum_31 (by decide) (fun c31 => ?_) (fun c31 => ?_)
        ·
          rw [qle (a := u) (b := i) (by omega) (by omega)] at c31
          refine lv_iconst (v := -1) hx hb dX1_keepDataAndSum_52 (by decide) ?_
          exact jn_53 (-1) trivial (by first | exact ⟨bQ_m, fun _ => rfl⟩ | exact ⟨by assumption, fun h => absurd h (by omega)⟩) _ _ _ (hP.sub [0, 1, 2, 3] rfl) (hD.sub [0, 1, 2, 3] (by decide) rfl) hS (lv_sub hl [0, 1, 2, 3, 4, 5, 6, 7, 8] rfl)
        ·
          rw [qle (a := u) (b := i) (by omega) (by omega)] at c31
          refine lv_aload_n hx hb dX1_keepDataAndSum_34 rfl (lv_at hl 5 rfl) ?_
          refine lv_iload_n hx hb dX1_keepDataAndSum_35 rfl (lv_at hl 6 rfl) ?_
          refine lv_iload hx hb dX1_keepDataAndSum_36 (lv_at hl 0 rfl) ?_
          have hic : i * cB cd ≤ 4 * 16 := Nat.mul_le_mul (by omega) hcl
          refine lv_iload hx hb dX1_keepDataAndSum_38 (lv_at hl 3 rfl) ?_
          refine lv_imul hx hb dX1_keepDataAndSum_40 ?_
          rw [pk_mul i (cB cd)]
          refine lv_iadd hx hb dX1_keepDataAndSum_41 ?_
          rw [nI_add dp (i * (cB cd))]
          refine lv_aload_n hx hb dX1_keepDataAndSum_42 rfl (lv_at hl 4 rfl) ?_
          refine va_get (D := D) (ci := 0) (v := .int (nI cd)) (C := RX1) (T := TX1) (N := 9) hx hb hts n_X1_keepDataAndSum_X1 hown hK hP 0 rfl rfl 0 (by decide) (wAt hts 1 (w := .fieldLink RX1 38 "FluxBench$Finds" "code" "I") rfl) (fun _ h9 => h9) rfl dX1_keepDataAndSum_43 ?_
          have hF := va_free (wc := [(rw, .inr (1, [.ref ra, .int (nI ln), .int wd])), (ra, .inl (kA 0, 400, .inl f))]) hD hS hA [2, 3] rfl
          refine va_calli (va_runS (As := [.ref rw, .int (nI (dp + (i * (cB cd)))), .int (nI cd)]) (rest := []) ⟨hx, hb, hml, hown, hts⟩ (c_X0_byteAt l D kA z rw ra ln (dp + (i * (cB cd))) cd wd f (by first | assumption | omega) (by first | assumption | omega) (by first | assumption | omega) (by first | assumption | omega) _) (va_cwS 3 hts h_X1_keepDataAndSum_1 rfl rfl rfl (by decide +kernel) ⟨Nat.le_of_ble_eq_true rfl, Nat.le_of_ble_eq_true rfl⟩) (fPs hK hP hD hS hG hF [2, 3] (by decide) rfl) rfl rfl hl.1 rfl (lv_room (Nat.le_of_ble_eq_true rfl)) dX1_keepDataAndSum_46 ⟨Nat.le_of_ble_eq_true rfl, Nat.le_of_ble_eq_true rfl⟩) hS (fun q _ h => hF q h) hF (fun r_3 w1 t H locs ht hvm hw hB hz1 hk1 hS => ?_)
          obtain ⟨hP, hD⟩ := fJ (wr := [(h0, .inr (0, [.int (nI cd), .ref va, .ref pa, .int (nI ns), .int (nI ng), .int (nI nst), .int (nI cu), .int (nI pn), .int (nI pl)])), (va, .inl (kA 0, 72, .inl g))]) hP hD [2, 3] [0, 1] rfl rfl (by decide) (by decide) hk1 hF ht hB
          try dsimp only at hw
          obtain ⟨rfl, q_2⟩ := hw
          have hP : va_P D vwCl [(h0, .inr (0, [.int (nI cd), .ref va, .ref pa, .int (nI ns), .int (nI ng), .int (nI nst), .int (nI cu), .int (nI pn), .int (nI pl)])), (va, .inl (kA 0, 72, .inl g)), (rw, .inr (1, [.ref ra, .int (nI ln), .int wd])), (ra, .inl (kA 0, 400, .inl f))] H := hP
          have hD : va_D A [(h0, .inr (0, [.int (nI cd), .ref va, .ref pa, .int (nI ns), .int (nI ng), .int (nI nst), .int (nI cu), .int (nI pn), .int (nI pl)])), (va, .inl (kA 0, 72, .inl g)), (rw, .inr (1, [.ref ra, .int (nI ln), .int wd])), (ra, .inl (kA 0, 400, .inl f))] := hD
          refine lv_goto (tgt := 53) hx hb dX1_keepDataAndSum_49 (by decide) ?_
          exact jn_53 r_3 trivial (by first | exact ⟨bQ_m, fun _ => rfl⟩ | exact ⟨by assumption, fun h => absurd h (by omega)⟩) _ _ _ (hP.sub [0, 1, 2, 3] rfl) (hD.sub [0, 1, 2, 3] (by decide) rfl) hS (lv_sub hl [0, 1, 2, 3, 4, 5, 6, 7, 8] rfl)
  exact lp_21 5 0 (nu + (nI u)) 1 v (by omega) (by first | assumption | omega | rfl) (by first | assumption | omega | rfl) (fun _ _ => rfl) (fun j hj => absurd hj (by omega)) _ _ _ (hP.sub [0, 1, 2, 3] rfl) (hD.sub [0, 1, 2, 3] (by decide) rfl) hS (lv_sub hl [0, 1, 2, 3, 4, 5, 6, 7, 8] rfl)

def wq_X1_noteBehindMark : List Cond := .code yX1_noteBehindMark cX1_noteBehindMark 8 (some .int) :: (([.fieldLink RX1 38 "FluxBench$Finds" "code" "I", .methodLink RX1 57 yX0_cellsOfByte, .static yX0_cellsOfByte, .initialized RX0, .fieldLink RX1 41 "FluxBench$Row" "length" "I", .methodLink RX1 62 yX0_byteAt, .static yX0_byteAt, .fieldLink RX1 25 "FluxBench$Finds" "strays" "I", .fieldLink RX1 18 "FluxBench$Finds" "sectors" "I", .methodLink RX1 66 yX1_setValue, .instanceMethod yX1_setValue, .selects RX1 yX1_setValue yX1_setValue, .initialized RX1, .methodLink RX1 70 yX1_keepDataAndSum, .instanceMethod yX1_keepDataAndSum, .selects RX1 yX1_keepDataAndSum yX1_keepDataAndSum, .fieldLink RX1 28 "FluxBench$Finds" "isCut" "Z"] : List Cond) ++ (u_ws RX1 TX1 9 ++ (u_ws RX2 TX2 3 ++ (wq_X0_cellsOfByte ++ (wq_X0_byteAt ++ (wq_X1_setValue_in ++ (wq_X1_keepDataAndSum ++ ([] : List Cond))))))))
theorem gd_X1_noteBehindMark : wq_X1_noteBehindMark.all goodWord = true := by decide +kernel
theorem n_X1_noteBehindMark_X1 : ∀ w ∈ u_ws RX1 TX1 9, w ∈ wq_X1_noteBehindMark := fun w h => List.mem_cons_of_mem _ (List.mem_append_right _ (List.mem_append_left _ h))
theorem n_X1_noteBehindMark_X2 : ∀ w ∈ u_ws RX2 TX2 3, w ∈ wq_X1_noteBehindMark := fun w h => List.mem_cons_of_mem _ (List.mem_append_right _ (List.mem_append_right _ (List.mem_append_left _ h)))
theorem h_X1_noteBehindMark_0 : GoodIn wq_X1_noteBehindMark (va_wsS RX1 57 yX0_cellsOfByte wq_X0_cellsOfByte) := goodIn_app (goodIn_r _ [2, 3, 4] (by decide +kernel) (by decide +kernel)) (goodIn_sub (fun w h => List.mem_cons_of_mem _ (List.mem_append_right _ (List.mem_append_right _ (List.mem_append_right _ (List.mem_append_left _ h))))) gd_X0_cellsOfByte)
theorem h_X1_noteBehindMark_1 : GoodIn wq_X1_noteBehindMark (va_wsS RX1 62 yX0_byteAt wq_X0_byteAt) := goodIn_app (goodIn_r _ [6, 7, 4] (by decide +kernel) (by decide +kernel)) (goodIn_sub (fun w h => List.mem_cons_of_mem _ (List.mem_append_right _ (List.mem_append_right _ (List.mem_append_right _ (List.mem_append_right _ (List.mem_append_left _ h)))))) gd_X0_byteAt)
theorem h_X1_noteBehindMark_2 : GoodIn wq_X1_noteBehindMark (wsV RX1 66 RX1 yX1_setValue wq_X1_setValue_in) := goodIn_app (goodIn_r _ [10, 11, 12, 13] (by decide +kernel) (by decide +kernel)) (goodIn_sub (fun w h => List.mem_cons_of_mem _ (List.mem_append_right _ (List.mem_append_right _ (List.mem_append_right _ (List.mem_append_right _ (List.mem_append_right _ (List.mem_append_left _ h))))))) gd_X1_setValue_in)
theorem h_X1_noteBehindMark_3 : GoodIn wq_X1_noteBehindMark (wsV RX1 70 RX1 yX1_keepDataAndSum wq_X1_keepDataAndSum) := goodIn_app (goodIn_r _ [14, 15, 16, 13] (by decide +kernel) (by decide +kernel)) (goodIn_sub (fun w h => List.mem_cons_of_mem _ (List.mem_append_right _ (List.mem_append_right _ (List.mem_append_right _ (List.mem_append_right _ (List.mem_append_right _ (List.mem_append_right _ (List.mem_append_left _ h)))))))) gd_X1_keepDataAndSum)
set_option maxHeartbeats 4000000 in
set_option maxRecDepth 100000 in
theorem c_X1_noteBehindMark (l : Launch) (D : va_G) (kA : Nat → ClassId) (z : Nat) (h0 va pa cd ns ng nst cu pn pl : Nat) (rw ra ln : Nat) (wd : Int32) (f : Nat → Int32) (mk : Nat) (v : Nat → Int32) (h1 : ln ≤ 400) (hf : B01 f) (hcd : cd ≤ 2) (hm : mk + 10 ≤ ln) (hbt : f mk = nI 1 ∧ f (mk + 4) = nI 0 ∧ f (mk + 9) = nI 1) (hs : sAll cd ln f v ns mk) (hng : ng = cntG v ns) (hcu : cu ≤ 1) (hst : nst ≤ 1000) : mI l D (tyL kA) z yX1_noteBehindMark wq_X1_noteBehindMark ({ frames := 4, cells := 0, slots := 0, locals := 117 }) [.ref h0, .ref rw, .int (nI mk)] [(h0, .inr (0, [.int (nI cd), .ref va, .ref pa, .int (nI ns), .int (nI ng), .int (nI nst), .int (nI cu), .int (nI pn), .int (nI pl)])), (va, .inl (kA 0, 72, .inl v)), (rw, .inr (1, [.ref ra, .int (nI ln), .int wd])), (ra, .inl (kA 0, 400, .inl f))] (fun r w => ∃ (ns2 ng2 nst2 cu2 g2 : Nat) (v2 : Nat → Int32), w = [(h0, .inr (0, [.int (nI cd), .ref va, .ref pa, .int (nI ns2), .int (nI ng2), .int (nI nst2), .int (nI cu2), .int (nI pn), .int (nI pl)])), (va, .inl (kA 0, 72, .inl v2)), (rw, .inr (1, [.ref ra, .int (nI ln), .int wd])), (ra, .inl (kA 0, 400, .inl f))] ∧ (r = nI g2) ∧ (mk + 10 ≤ g2) ∧ (g2 ≤ 1000) ∧ (sAll cd ln f v2 ns2 g2) ∧ (ng2 = cntG v2 ns2) ∧ (cu2 ≤ 1) ∧ (nst2 ≤ nst + 1)) := by
  refine ofI (cc := cX1_noteBehindMark) (maxL := 8) RX1 rfl (by decide +kernel) rfl (Nat.le_of_ble_eq_true rfl) ?_
  intro p e s m args below meth c A ls hE
  obtain ⟨hx, hb, hr, hml, hts, hown, hlocks, hA, hS, hP, hK, hD, hG, hl⟩ := hE
  have hl : lv_has ls 8 [(0, .ref h0), (1, .ref rw), (2, .int (nI mk))] := hl
  have hH : s.heap = s.heap := rfl
  have hcl := cB_le cd
  have hcg := cB_ge cd
  have hns := sAll.len hs
  refine lv_aload_n hx hb dX1_noteBehindMark_0 rfl (lv_at hl 0 rfl) ?_
  refine va_get (D := D) (ci := 0) (v := .int (nI cd)) (C := RX1) (T := TX1) (N := 9) hx hb hts n_X1_noteBehindMark_X1 hown hK hP 0 rfl rfl 0 (by decide) (wAt hts 1 (w := .fieldLink RX1 38 "FluxBench$Finds" "code" "I") rfl) (fun _ h9 => h9) rfl dX1_noteBehindMark_1 ?_
  have hF := va_free (wc := []) hD hS hA [] rfl
  refine va_calli (va_runS (As := [.int (nI cd)]) (rest := []) ⟨hx, hb, hml, hown, hts⟩ (c_X0_cellsOfByte l D kA z cd (by first | assumption | omega) _) (va_cwS 1 hts h_X1_noteBehindMark_0 rfl rfl rfl (by decide +kernel) ⟨Nat.le_of_ble_eq_true rfl, Nat.le_of_ble_eq_true rfl⟩) (fPs hK hP hD hS hG hF [] (by decide) rfl) rfl rfl hl.1 rfl (lv_room (Nat.le_of_ble_eq_true rfl)) dX1_noteBehindMark_4 ⟨Nat.le_of_ble_eq_true rfl, Nat.le_of_ble_eq_true rfl⟩) hS (fun q _ h => hF q h) hF (fun r_1 w1 t H locs ht hvm hw hB hz1 hk1 hS => ?_)
  obtain ⟨hP, hD⟩ := fJ (wr := [(h0, .inr (0, [.int (nI cd), .ref va, .ref pa, .int (nI ns), .int (nI ng), .int (nI nst), .int (nI cu), .int (nI pn), .int (nI pl)])), (va, .inl (kA 0, 72, .inl v)), (rw, .inr (1, [.ref ra, .int (nI ln), .int wd])), (ra, .inl (kA 0, 400, .inl f))]) hP hD [] [0, 1, 2, 3] rfl rfl (by decide) (by decide) hk1 hF ht hB
  try dsimp only at hw
  obtain ⟨rfl, e_1⟩ := hw
  replace e_1 := e_1.symm
  subst e_1
  have hP : va_P D vwCl [(h0, .inr (0, [.int (nI cd), .ref va, .ref pa, .int (nI ns), .int (nI ng), .int (nI nst), .int (nI cu), .int (nI pn), .int (nI pl)])), (va, .inl (kA 0, 72, .inl v)), (rw, .inr (1, [.ref ra, .int (nI ln), .int wd])), (ra, .inl (kA 0, 400, .inl f))] H := hP
  have hD : va_D A [(h0, .inr (0, [.int (nI cd), .ref va, .ref pa, .int (nI ns), .int (nI ng), .int (nI nst), .int (nI cu), .int (nI pn), .int (nI pl)])), (va, .inl (kA 0, 72, .inl v)), (rw, .inr (1, [.ref ra, .int (nI ln), .int wd])), (ra, .inl (kA 0, 400, .inl f))] := hD
  refine lv_istore_n (lv' := [(3, .int (nI (cB cd))), (0, .ref h0), (1, .ref rw), (2, .int (nI mk))]) hx hb dX1_noteBehindMark_7 rfl hl (by decide) rfl (fun ls hl => ?_)
  refine lv_iload_n hx hb dX1_noteBehindMark_8 rfl (lv_at hl 3 rfl) ?_
  refine lv_bipush (v := nI 10) hx hb dX1_noteBehindMark_9 (by decide) ?_
  refine lv_iadd hx hb dX1_noteBehindMark_11 ?_
  rw [nI_add mk 10]
  refine lv_istore (lv' := [(4, .int (nI (mk + 10))), (3, .int (nI (cB cd))), (0, .ref h0), (1, .ref rw), (2, .int (nI mk))]) hx hb dX1_noteBehindMark_12 hl (by decide) rfl (fun ls hl => ?_)
  refine lv_iload hx hb dX1_noteBehindMark_14 (lv_at hl 0 rfl) ?_
  refine lv_iconst (v := nI 2) hx hb dX1_noteBehindMark_16 (by decide) ?_
  refine lv_iload_n hx hb dX1_noteBehindMark_17 rfl (lv_at hl 1 rfl) ?_
  refine lv_imul hx hb dX1_noteBehindMark_18 ?_
  rw [pk_mul 2 (cB cd)]
  refine lv_iadd hx hb dX1_noteBehindMark_19 ?_
  rw [nI_add (mk + 10) (2 * (cB cd))]
  refine lv_aload_n hx hb dX1_noteBehindMark_20 rfl (lv_at hl 3 rfl) ?_
  refine va_get (D := D) (ci := 1) (v := .int (nI ln)) (C := RX2) (T := TX2) (N := 3) hx hb hts n_X1_noteBehindMark_X2 hown hK hP 2 rfl rfl 1 (by decide) (wAt hts 5 (w := .fieldLink RX1 41 "FluxBench$Row" "length" "I") rfl) (fun _ h9 => h9) rfl dX1_noteBehindMark_21 ?_
  refine lv_icmp_le (tgt := 40) hx hb dX1_noteBehindMark_24 (by decide) (fun c24 => ?_) (fun c24 => ?_)
  ·
    rw [qle (a := (mk + 10 + (2 * (cB cd)))) (b := ln) (by omega) (by omega)] at c24
    refine lv_aload_n hx hb dX1_noteBehindMark_40 rfl (lv_at hl 3 rfl) ?_
    refine lv_iload hx hb dX1_noteBehindMark_41 (lv_at hl 0 rfl) ?_
    refine lv_aload_n hx hb dX1_noteBehindMark_43 rfl (lv_at hl 2 rfl) ?_
    refine va_get (D := D) (ci := 0) (v := .int (nI cd)) (C := RX1) (T := TX1) (N := 9) hx hb hts n_X1_noteBehindMark_X1 hown hK hP 0 rfl rfl 0 (by decide) (wAt hts 1 (w := .fieldLink RX1 38 "FluxBench$Finds" "code" "I") rfl) (fun _ h9 => h9) rfl dX1_noteBehindMark_44 ?_
    have hF := va_free (wc := [(rw, .inr (1, [.ref ra, .int (nI ln), .int wd])), (ra, .inl (kA 0, 400, .inl f))]) hD hS hA [2, 3] rfl
    refine va_calli (va_runS (As := [.ref rw, .int (nI (mk + 10)), .int (nI cd)]) (rest := []) ⟨hx, hb, hml, hown, hts⟩ (c_X0_byteAt l D kA z rw ra ln (mk + 10) cd wd f (by first | assumption | omega) (by first | assumption | omega) (by first | assumption | omega) (by first | assumption | omega) _) (va_cwS 3 hts h_X1_noteBehindMark_1 rfl rfl rfl (by decide +kernel) ⟨Nat.le_of_ble_eq_true rfl, Nat.le_of_ble_eq_true rfl⟩) (fPs hK hP hD hS hG hF [2, 3] (by decide) rfl) rfl rfl hl.1 rfl (lv_room (Nat.le_of_ble_eq_true rfl)) dX1_noteBehindMark_47 ⟨Nat.le_of_ble_eq_true rfl, Nat.le_of_ble_eq_true rfl⟩) hS (fun q _ h => hF q h) hF (fun r_2 w1 t H locs ht hvm hw hB hz1 hk1 hS => ?_)
    obtain ⟨hP, hD⟩ := fJ (wr := [(h0, .inr (0, [.int (nI cd), .ref va, .ref pa, .int (nI ns), .int (nI ng), .int (nI nst), .int (nI cu), .int (nI pn), .int (nI pl)])), (va, .inl (kA 0, 72, .inl v))]) hP hD [2, 3] [0, 1] rfl rfl (by decide) (by decide) hk1 hF ht hB
    try dsimp only at hw
    obtain ⟨rfl, q_1⟩ := hw
    have hP : va_P D vwCl [(h0, .inr (0, [.int (nI cd), .ref va, .ref pa, .int (nI ns), .int (nI ng), .int (nI nst), .int (nI cu), .int (nI pn), .int (nI pl)])), (va, .inl (kA 0, 72, .inl v)), (rw, .inr (1, [.ref ra, .int (nI ln), .int wd])), (ra, .inl (kA 0, 400, .inl f))] H := hP
    have hD : va_D A [(h0, .inr (0, [.int (nI cd), .ref va, .ref pa, .int (nI ns), .int (nI ng), .int (nI nst), .int (nI cu), .int (nI pn), .int (nI pl)])), (va, .inl (kA 0, 72, .inl v)), (rw, .inr (1, [.ref ra, .int (nI ln), .int wd])), (ra, .inl (kA 0, 400, .inl f))] := hD
    refine lv_istore (lv' := [(5, .int r_2), (4, .int (nI (mk + 10))), (3, .int (nI (cB cd))), (0, .ref h0), (1, .ref rw), (2, .int (nI mk))]) hx hb dX1_noteBehindMark_50 hl (by decide) rfl (fun ls hl => ?_)
    refine lv_aload_n hx hb dX1_noteBehindMark_52 rfl (lv_at hl 4 rfl) ?_
    refine lv_iload hx hb dX1_noteBehindMark_53 (lv_at hl 1 rfl) ?_
    refine lv_iload_n hx hb dX1_noteBehindMark_55 rfl (lv_at hl 2 rfl) ?_
    refine lv_iadd hx hb dX1_noteBehindMark_56 ?_
    rw [nI_add (mk + 10) (cB cd)]
    refine lv_aload_n hx hb dX1_noteBehindMark_57 rfl (lv_at hl 3 rfl) ?_
    refine va_get (D := D) (ci := 0) (v := .int (nI cd)) (C := RX1) (T := TX1) (N := 9) hx hb hts n_X1_noteBehindMark_X1 hown hK hP 0 rfl rfl 0 (by decide) (wAt hts 1 (w := .fieldLink RX1 38 "FluxBench$Finds" "code" "I") rfl) (fun _ h9 => h9) rfl dX1_noteBehindMark_58 ?_
    have hF := va_free (wc := [(rw, .inr (1, [.ref ra, .int (nI ln), .int wd])), (ra, .inl (kA 0, 400, .inl f))]) hD hS hA [2, 3] rfl
    refine va_calli (va_runS (As := [.ref rw, .int (nI (mk + 10 + (cB cd))), .int (nI cd)]) (rest := []) ⟨hx, hb, hml, hown, hts⟩ (c_X0_byteAt l D kA z rw ra ln (mk + 10 + (cB cd)) cd wd f (by first | assumption | omega) (by first | assumption | omega) (by first | assumption | omega) (by first | assumption | omega) _) (va_cwS 3 hts h_X1_noteBehindMark_1 rfl rfl rfl (by decide +kernel) ⟨Nat.le_of_ble_eq_true rfl, Nat.le_of_ble_eq_true rfl⟩) (fPs hK hP hD hS hG hF [2, 3] (by decide) rfl) rfl rfl hl.1 rfl (lv_room (Nat.le_of_ble_eq_true rfl)) dX1_noteBehindMark_61 ⟨Nat.le_of_ble_eq_true rfl, Nat.le_of_ble_eq_true rfl⟩) hS (fun q _ h => hF q h) hF (fun r_3 w1 t H locs ht hvm hw hB hz1 hk1 hS => ?_)
    obtain ⟨hP, hD⟩ := fJ (wr := [(h0, .inr (0, [.int (nI cd), .ref va, .ref pa, .int (nI ns), .int (nI ng), .int (nI nst), .int (nI cu), .int (nI pn), .int (nI pl)])), (va, .inl (kA 0, 72, .inl v))]) hP hD [2, 3] [0, 1] rfl rfl (by decide) (by decide) hk1 hF ht hB
    try dsimp only at hw
    obtain ⟨rfl, q_2⟩ := hw
    have hP : va_P D vwCl [(h0, .inr (0, [.int (nI cd), .ref va, .ref pa, .int (nI ns), .int (nI ng), .int (nI nst), .int (nI cu), .int (nI pn), .int (nI pl)])), (va, .inl (kA 0, 72, .inl v)), (rw, .inr (1, [.ref ra, .int (nI ln), .int wd])), (ra, .inl (kA 0, 400, .inl f))] H := hP
    have hD : va_D A [(h0, .inr (0, [.int (nI cd), .ref va, .ref pa, .int (nI ns), .int (nI ng), .int (nI nst), .int (nI cu), .int (nI pn), .int (nI pl)])), (va, .inl (kA 0, 72, .inl v)), (rw, .inr (1, [.ref ra, .int (nI ln), .int wd])), (ra, .inl (kA 0, 400, .inl f))] := hD
    refine lv_istore (lv' := [(6, .int r_3), (5, .int r_2), (4, .int (nI (mk + 10))), (3, .int (nI (cB cd))), (0, .ref h0), (1, .ref rw), (2, .int (nI mk))]) hx hb dX1_noteBehindMark_64 hl (by decide) rfl (fun ls hl => ?_)
    refine lv_iload hx hb dX1_noteBehindMark_66 (lv_at hl 1 rfl) ?_
    refine lv_iconst (v := -1) hx hb dX1_noteBehindMark_68 (by decide) ?_
    refine lv_icmp_eq (tgt := 84) hx hb dX1_noteBehindMark_69 (by decide) (fun c69 => ?_) (fun c69 => ?_)
    ·
      refine lv_aload_n hx hb dX1_noteBehindMark_84 rfl (lv_at hl 4 rfl) ?_
      refine lv_dup hx hb dX1_noteBehindMark_85 rfl ?_
      refine va_get (D := D) (ci := 0) (v := .int (nI nst)) (C := RX1) (T := TX1) (N := 9) hx hb hts n_X1_noteBehindMark_X1 hown hK hP 0 rfl rfl 5 (by decide) (wAt hts 8 (w := .fieldLink RX1 25 "FluxBench$Finds" "strays" "I") rfl) (fun _ h9 => h9) rfl dX1_noteBehindMark_86 ?_
      refine lv_iconst (v := nI 1) hx hb dX1_noteBehindMark_89 (by decide) ?_
      refine lv_iadd hx hb dX1_noteBehindMark_90 ?_
      rw [nI_add nst 1]
      refine va_put (D := D) (ci := 0) (v := .int (nI (nst + 1))) (ty := .int) (C := RX1) (T := TX1) (N := 9) hx hb hts n_X1_noteBehindMark_X1 tyX1 tyX1_ok nmX1 hown hK hP hD hS 0 rfl rfl 5 (by decide) (wAt hts 8 (w := .fieldLink RX1 25 "FluxBench$Finds" "strays" "I") rfl) (fun _ h9 => h9) rfl (by decide +kernel) rfl rfl (Nat.le_of_ble_eq_true rfl) dX1_noteBehindMark_91 (fun H locs hP hD hS => ?_)
      have hP : va_P D vwCl [(h0, .inr (0, [.int (nI cd), .ref va, .ref pa, .int (nI ns), .int (nI ng), .int (nI (nst + 1)), .int (nI cu), .int (nI pn), .int (nI pl)])), (va, .inl (kA 0, 72, .inl v)), (rw, .inr (1, [.ref ra, .int (nI ln), .int wd])), (ra, .inl (kA 0, 400, .inl f))] H := hP
      have hD : va_D A [(h0, .inr (0, [.int (nI cd), .ref va, .ref pa, .int (nI ns), .int (nI ng), .int (nI (nst + 1)), .int (nI cu), .int (nI pn), .int (nI pl)])), (va, .inl (kA 0, 72, .inl v)), (rw, .inr (1, [.ref ra, .int (nI ln), .int wd])), (ra, .inl (kA 0, 400, .inl f))] := hD
      refine lv_iload hx hb dX1_noteBehindMark_94 (lv_at hl 2 rfl) ?_
      exact endI hx hb hr hlocks hK hP hD hS (⟨ns, ng, (nst + 1), cu, (mk + 10), v, rfl, by first | rfl | assumption | omega | (rw [if_pos (by omega)]; first | done | rfl) | (rw [if_neg (by omega)]; first | done | rfl), by first | rfl | assumption | omega | (rw [if_pos (by omega)]; first | done | rfl) | (rw [if_neg (by omega)]; first | done | rfl), by first | rfl | assumption | omega | (rw [if_pos (by omega)]; first | done | rfl) | (rw [if_neg (by omega)]; first | done | rfl), hs.le (by omega), by first | rfl | assumption | omega | (rw [if_pos (by omega)]; first | done | rfl) | (rw [if_neg (by omega)]; first | done | rfl), by first | rfl | assumption | omega | (rw [if_pos (by omega)]; first | done | rfl) | (rw [if_neg (by omega)]; first | done | rfl), by first | rfl | assumption | omega | (rw [if_pos (by omega)]; first | done | rfl) | (rw [if_neg (by omega)]; first | done | rfl)⟩) (Nat.le_of_ble_eq_true rfl) (Nat.le_of_ble_eq_true rfl) dX1_noteBehindMark_96
    ·
      refine lv_iload hx hb dX1_noteBehindMark_72 (lv_at hl 0 rfl) ?_
      refine lv_iconst (v := nI 1) hx hb dX1_noteBehindMark_74 (by decide) ?_
      refine lv_icmp_lt (tgt := 84) hx hb dX1_noteBehindMark_75 (by decide) (fun c75 => ?_) (fun c75 => ?_)
      ·
        refine lv_aload_n hx hb dX1_noteBehindMark_84 rfl (lv_at hl 4 rfl) ?_
        refine lv_dup hx hb dX1_noteBehindMark_85 rfl ?_
        refine va_get (D := D) (ci := 0) (v := .int (nI nst)) (C := RX1) (T := TX1) (N := 9) hx hb hts n_X1_noteBehindMark_X1 hown hK hP 0 rfl rfl 5 (by decide) (wAt hts 8 (w := .fieldLink RX1 25 "FluxBench$Finds" "strays" "I") rfl) (fun _ h9 => h9) rfl dX1_noteBehindMark_86 ?_
        refine lv_iconst (v := nI 1) hx hb dX1_noteBehindMark_89 (by decide) ?_
        refine lv_iadd hx hb dX1_noteBehindMark_90 ?_
        rw [nI_add nst 1]
        refine va_put (D := D) (ci := 0) (v := .int (nI (nst + 1))) (ty := .int) (C := RX1) (T := TX1) (N := 9) hx hb hts n_X1_noteBehindMark_X1 tyX1 tyX1_ok nmX1 hown hK hP hD hS 0 rfl rfl 5 (by decide) (wAt hts 8 (w := .fieldLink RX1 25 "FluxBench$Finds" "strays" "I") rfl) (fun _ h9 => h9) rfl (by decide +kernel) rfl rfl (Nat.le_of_ble_eq_true rfl) dX1_noteBehindMark_91 (fun H locs hP hD hS => ?_)
        have hP : va_P D vwCl [(h0, .inr (0, [.int (nI cd), .ref va, .ref pa, .int (nI ns), .int (nI ng), .int (nI (nst + 1)), .int (nI cu), .int (nI pn), .int (nI pl)])), (va, .inl (kA 0, 72, .inl v)), (rw, .inr (1, [.ref ra, .int (nI ln), .int wd])), (ra, .inl (kA 0, 400, .inl f))] H := hP
        have hD : va_D A [(h0, .inr (0, [.int (nI cd), .ref va, .ref pa, .int (nI ns), .int (nI ng), .int (nI (nst + 1)), .int (nI cu), .int (nI pn), .int (nI pl)])), (va, .inl (kA 0, 72, .inl v)), (rw, .inr (1, [.ref ra, .int (nI ln), .int wd])), (ra, .inl (kA 0, 400, .inl f))] := hD
        refine lv_iload hx hb dX1_noteBehindMark_94 (lv_at hl 2 rfl) ?_
        exact endI hx hb hr hlocks hK hP hD hS (⟨ns, ng, (nst + 1), cu, (mk + 10), v, rfl, by first | rfl | assumption | omega | (rw [if_pos (by omega)]; first | done | rfl) | (rw [if_neg (by omega)]; first | done | rfl), by first | rfl | assumption | omega | (rw [if_pos (by omega)]; first | done | rfl) | (rw [if_neg (by omega)]; first | done | rfl), by first | rfl | assumption | omega | (rw [if_pos (by omega)]; first | done | rfl) | (rw [if_neg (by omega)]; first | done | rfl), hs.le (by omega), by first | rfl | assumption | omega | (rw [if_pos (by omega)]; first | done | rfl) | (rw [if_neg (by omega)]; first | done | rfl), by first | rfl | assumption | omega | (rw [if_pos (by omega)]; first | done | rfl) | (rw [if_neg (by omega)]; first | done | rfl), by first | rfl | assumption | omega | (rw [if_pos (by omega)]; first | done | rfl) | (rw [if_neg (by omega)]; first | done | rfl)⟩) (Nat.le_of_ble_eq_true rfl) (Nat.le_of_ble_eq_true rfl) dX1_noteBehindMark_96
      ·
        refine lv_iload hx hb dX1_noteBehindMark_78 (lv_at hl 0 rfl) ?_
        refine lv_iconst (v := nI 4) hx hb dX1_noteBehindMark_80 (by decide) ?_
        refine lv_icmp_le (tgt := 97) hx hb dX1_noteBehindMark_81 (by decide) (fun c81 => ?_) (fun c81 => ?_)
        ·
          obtain ⟨u9, hu1, hu4, rfl⟩ := rq_mid (lo := 1) (hi := 4) (by decide) (by decide) c75 c81
          have hcm : (u9 + 3) * cB cd ≤ 7 * 16 := Nat.mul_le_mul (by omega) hcl
          have hcm2 : 4 * 10 ≤ (u9 + 3) * cB cd := Nat.mul_le_mul (by omega) hcg
          refine lv_iload hx hb dX1_noteBehindMark_97 (lv_at hl 2 rfl) ?_
          refine lv_iload hx hb dX1_noteBehindMark_99 (lv_at hl 0 rfl) ?_
          refine lv_iconst (v := nI 3) hx hb dX1_noteBehindMark_101 (by decide) ?_
          refine lv_iadd hx hb dX1_noteBehindMark_102 ?_
          rw [nI_add u9 3]
          refine lv_iload_n hx hb dX1_noteBehindMark_103 rfl (lv_at hl 3 rfl) ?_
          refine lv_imul hx hb dX1_noteBehindMark_104 ?_
          rw [pk_mul (u9 + 3) (cB cd)]
          refine lv_iadd hx hb dX1_noteBehindMark_105 ?_
          rw [nI_add (mk + 10) ((u9 + 3) * (cB cd))]
          refine lv_istore (lv' := [(7, .int (nI (mk + 10 + ((u9 + 3) * (cB cd))))), (6, .int (nI u9)), (5, .int r_2), (4, .int (nI (mk + 10))), (3, .int (nI (cB cd))), (0, .ref h0), (1, .ref rw), (2, .int (nI mk))]) hx hb dX1_noteBehindMark_106 hl (by decide) rfl (fun ls hl => ?_)
          refine lv_iload hx hb dX1_noteBehindMark_108 (lv_at hl 0 rfl) ?_
          refine lv_aload_n hx hb dX1_noteBehindMark_110 rfl (lv_at hl 6 rfl) ?_
          refine va_get (D := D) (ci := 1) (v := .int (nI ln)) (C := RX2) (T := TX2) (N := 3) hx hb hts n_X1_noteBehindMark_X2 hown hK hP 2 rfl rfl 1 (by decide) (wAt hts 5 (w := .fieldLink RX1 41 "FluxBench$Row" "length" "I") rfl) (fun _ h9 => h9) rfl dX1_noteBehindMark_111 ?_
          refine lv_icmp_le (tgt := 125) hx hb dX1_noteBehindMark_114 (by decide) (fun c114 => ?_) (fun c114 => ?_)
          ·
            rw [qle (a := (mk + 10 + ((u9 + 3) * (cB cd)))) (b := ln) (by omega) (by omega)] at c114
            refine lv_aload_n hx hb dX1_noteBehindMark_125 rfl (lv_at hl 5 rfl) ?_
            refine lv_aload_n hx hb dX1_noteBehindMark_126 rfl (lv_at hl 5 rfl) ?_
            refine va_get (D := D) (ci := 0) (v := .int (nI ns)) (C := RX1) (T := TX1) (N := 9) hx hb hts n_X1_noteBehindMark_X1 hown hK hP 0 rfl rfl 3 (by decide) (wAt hts 9 (w := .fieldLink RX1 18 "FluxBench$Finds" "sectors" "I") rfl) (fun _ h9 => h9) rfl dX1_noteBehindMark_127 ?_
            refine lv_iconst (v := nI 0) hx hb dX1_noteBehindMark_130 (by decide) ?_
            refine lv_iload_n hx hb dX1_noteBehindMark_131 rfl (lv_at hl 7 rfl) ?_
            have hF := va_free (wc := [(h0, .inr (0, [.int (nI cd), .ref va, .ref pa, .int (nI ns), .int (nI ng), .int (nI nst), .int (nI cu), .int (nI pn), .int (nI pl)])), (va, .inl (kA 0, 72, .inl v))]) hD hS hA [0, 1] rfl
            refine va_callv (va_runV (As := [.int (nI ns), .int (nI 0), .int (nI mk)]) (rest := []) ⟨hx, hb, hml, hown, hts⟩ (c_X1_setValue_in l D kA z h0 va pa cd ns ng nst cu pn pl ns 0 v (nI mk) (by first | assumption | omega) (by first | assumption | omega) (by first | assumption | omega) _) (cwV 3 hts h_X1_noteBehindMark_2 rfl rfl rfl (by decide +kernel) ⟨Nat.le_of_ble_eq_true rfl, Nat.le_of_ble_eq_true rfl⟩) (fPv hK hP hD hS hG hF [0, 1] (by decide) rfl 0 0 rfl rfl rfl) rfl rfl hl.1 rfl (lv_room (Nat.le_of_ble_eq_true rfl)) dX1_noteBehindMark_132 ⟨Nat.le_of_ble_eq_true rfl, Nat.le_of_ble_eq_true rfl⟩) hS (fun q _ h => hF q h) hF (fun w1 t H locs ht hvm hw hB hz1 hk1 hS => ?_)
            obtain ⟨hP, hD⟩ := fJ (wr := [(rw, .inr (1, [.ref ra, .int (nI ln), .int wd])), (ra, .inl (kA 0, 400, .inl f))]) hP hD [0, 1] [2, 3] rfl rfl (by decide) (by decide) hk1 hF ht hB
            try dsimp only at hw
            subst hw
            have hP : va_P D vwCl [(rw, .inr (1, [.ref ra, .int (nI ln), .int wd])), (ra, .inl (kA 0, 400, .inl f)), (h0, .inr (0, [.int (nI cd), .ref va, .ref pa, .int (nI ns), .int (nI ng), .int (nI nst), .int (nI cu), .int (nI pn), .int (nI pl)])), (va, .inl (kA 0, 72, .inl (upd v (ns * 9 + 0) (nI mk))))] H := hP
            have hD : va_D A [(rw, .inr (1, [.ref ra, .int (nI ln), .int wd])), (ra, .inl (kA 0, 400, .inl f)), (h0, .inr (0, [.int (nI cd), .ref va, .ref pa, .int (nI ns), .int (nI ng), .int (nI nst), .int (nI cu), .int (nI pn), .int (nI pl)])), (va, .inl (kA 0, 72, .inl (upd v (ns * 9 + 0) (nI mk))))] := hD
            refine lv_aload_n hx hb dX1_noteBehindMark_135 rfl (lv_at hl 5 rfl) ?_
            refine lv_aload_n hx hb dX1_noteBehindMark_136 rfl (lv_at hl 5 rfl) ?_
            refine va_get (D := D) (ci := 0) (v := .int (nI ns)) (C := RX1) (T := TX1) (N := 9) hx hb hts n_X1_noteBehindMark_X1 hown hK hP 2 rfl rfl 3 (by decide) (wAt hts 9 (w := .fieldLink RX1 18 "FluxBench$Finds" "sectors" "I") rfl) (fun _ h9 => h9) rfl dX1_noteBehindMark_137 ?_
            refine lv_iconst (v := nI 1) hx hb dX1_noteBehindMark_140 (by decide) ?_
            refine lv_iload hx hb dX1_noteBehindMark_141 (lv_at hl 2 rfl) ?_
            have hF := va_free (wc := [(h0, .inr (0, [.int (nI cd), .ref va, .ref pa, .int (nI ns), .int (nI ng), .int (nI nst), .int (nI cu), .int (nI pn), .int (nI pl)])), (va, .inl (kA 0, 72, .inl (upd v (ns * 9 + 0) (nI mk))))]) hD hS hA [2, 3] rfl
            refine va_callv (va_runV (As := [.int (nI ns), .int (nI 1), .int r_2]) (rest := []) ⟨hx, hb, hml, hown, hts⟩ (c_X1_setValue_in l D kA z h0 va pa cd ns ng nst cu pn pl ns 1 (upd v (ns * 9 + 0) (nI mk)) r_2 (by first | assumption | omega) (by first | assumption | omega) (by first | assumption | omega) _) (cwV 3 hts h_X1_noteBehindMark_2 rfl rfl rfl (by decide +kernel) ⟨Nat.le_of_ble_eq_true rfl, Nat.le_of_ble_eq_true rfl⟩) (fPv hK hP hD hS hG hF [2, 3] (by decide) rfl 2 0 rfl rfl rfl) rfl rfl hl.1 rfl (lv_room (Nat.le_of_ble_eq_true rfl)) dX1_noteBehindMark_143 ⟨Nat.le_of_ble_eq_true rfl, Nat.le_of_ble_eq_true rfl⟩) hS (fun q _ h => hF q h) hF (fun w1 t H locs ht hvm hw hB hz1 hk1 hS => ?_)
            obtain ⟨hP, hD⟩ := fJ (wr := [(rw, .inr (1, [.ref ra, .int (nI ln), .int wd])), (ra, .inl (kA 0, 400, .inl f))]) hP hD [2, 3] [0, 1] rfl rfl (by decide) (by decide) hk1 hF ht hB
            try dsimp only at hw
            subst hw
            have hP : va_P D vwCl [(rw, .inr (1, [.ref ra, .int (nI ln), .int wd])), (ra, .inl (kA 0, 400, .inl f)), (h0, .inr (0, [.int (nI cd), .ref va, .ref pa, .int (nI ns), .int (nI ng), .int (nI nst), .int (nI cu), .int (nI pn), .int (nI pl)])), (va, .inl (kA 0, 72, .inl (upd (upd v (ns * 9 + 0) (nI mk)) (ns * 9 + 1) r_2)))] H := hP
            have hD : va_D A [(rw, .inr (1, [.ref ra, .int (nI ln), .int wd])), (ra, .inl (kA 0, 400, .inl f)), (h0, .inr (0, [.int (nI cd), .ref va, .ref pa, .int (nI ns), .int (nI ng), .int (nI nst), .int (nI cu), .int (nI pn), .int (nI pl)])), (va, .inl (kA 0, 72, .inl (upd (upd v (ns * 9 + 0) (nI mk)) (ns * 9 + 1) r_2)))] := hD
            refine lv_aload_n hx hb dX1_noteBehindMark_146 rfl (lv_at hl 5 rfl) ?_
            refine lv_aload_n hx hb dX1_noteBehindMark_147 rfl (lv_at hl 5 rfl) ?_
            refine va_get (D := D) (ci := 0) (v := .int (nI ns)) (C := RX1) (T := TX1) (N := 9) hx hb hts n_X1_noteBehindMark_X1 hown hK hP 2 rfl rfl 3 (by decide) (wAt hts 9 (w := .fieldLink RX1 18 "FluxBench$Finds" "sectors" "I") rfl) (fun _ h9 => h9) rfl dX1_noteBehindMark_148 ?_
            refine lv_iconst (v := nI 2) hx hb dX1_noteBehindMark_151 (by decide) ?_
            refine lv_iload hx hb dX1_noteBehindMark_152 (lv_at hl 1 rfl) ?_
            have hF := va_free (wc := [(h0, .inr (0, [.int (nI cd), .ref va, .ref pa, .int (nI ns), .int (nI ng), .int (nI nst), .int (nI cu), .int (nI pn), .int (nI pl)])), (va, .inl (kA 0, 72, .inl (upd (upd v (ns * 9 + 0) (nI mk)) (ns * 9 + 1) r_2)))]) hD hS hA [2, 3] rfl
            refine va_callv (va_runV (As := [.int (nI ns), .int (nI 2), .int (nI u9)]) (rest := []) ⟨hx, hb, hml, hown, hts⟩ (c_X1_setValue_in l D kA z h0 va pa cd ns ng nst cu pn pl ns 2 (upd (upd v (ns * 9 + 0) (nI mk)) (ns * 9 + 1) r_2) (nI u9) (by first | assumption | omega) (by first | assumption | omega) (by first | assumption | omega) _) (cwV 3 hts h_X1_noteBehindMark_2 rfl rfl rfl (by decide +kernel) ⟨Nat.le_of_ble_eq_true rfl, Nat.le_of_ble_eq_true rfl⟩) (fPv hK hP hD hS hG hF [2, 3] (by decide) rfl 2 0 rfl rfl rfl) rfl rfl hl.1 rfl (lv_room (Nat.le_of_ble_eq_true rfl)) dX1_noteBehindMark_154 ⟨Nat.le_of_ble_eq_true rfl, Nat.le_of_ble_eq_true rfl⟩) hS (fun q _ h => hF q h) hF (fun w1 t H locs ht hvm hw hB hz1 hk1 hS => ?_)
            obtain ⟨hP, hD⟩ := fJ (wr := [(rw, .inr (1, [.ref ra, .int (nI ln), .int wd])), (ra, .inl (kA 0, 400, .inl f))]) hP hD [2, 3] [0, 1] rfl rfl (by decide) (by decide) hk1 hF ht hB
            try dsimp only at hw
            subst hw
            have hP : va_P D vwCl [(rw, .inr (1, [.ref ra, .int (nI ln), .int wd])), (ra, .inl (kA 0, 400, .inl f)), (h0, .inr (0, [.int (nI cd), .ref va, .ref pa, .int (nI ns), .int (nI ng), .int (nI nst), .int (nI cu), .int (nI pn), .int (nI pl)])), (va, .inl (kA 0, 72, .inl (upd (upd (upd v (ns * 9 + 0) (nI mk)) (ns * 9 + 1) r_2) (ns * 9 + 2) (nI u9))))] H := hP
            have hD : va_D A [(rw, .inr (1, [.ref ra, .int (nI ln), .int wd])), (ra, .inl (kA 0, 400, .inl f)), (h0, .inr (0, [.int (nI cd), .ref va, .ref pa, .int (nI ns), .int (nI ng), .int (nI nst), .int (nI cu), .int (nI pn), .int (nI pl)])), (va, .inl (kA 0, 72, .inl (upd (upd (upd v (ns * 9 + 0) (nI mk)) (ns * 9 + 1) r_2) (ns * 9 + 2) (nI u9))))] := hD
            refine lv_aload_n hx hb dX1_noteBehindMark_157 rfl (lv_at hl 5 rfl) ?_
            refine lv_aload_n hx hb dX1_noteBehindMark_158 rfl (lv_at hl 6 rfl) ?_
            refine lv_iload hx hb dX1_noteBehindMark_159 (lv_at hl 3 rfl) ?_
            refine lv_iconst (v := nI 2) hx hb dX1_noteBehindMark_161 (by decide) ?_
            refine lv_iload_n hx hb dX1_noteBehindMark_162 rfl (lv_at hl 4 rfl) ?_
            refine lv_imul hx hb dX1_noteBehindMark_163 ?_
            rw [pk_mul 2 (cB cd)]
            refine lv_iadd hx hb dX1_noteBehindMark_164 ?_
            rw [nI_add (mk + 10) (2 * (cB cd))]
            refine lv_iload hx hb dX1_noteBehindMark_165 (lv_at hl 2 rfl) ?_
            refine lv_iload hx hb dX1_noteBehindMark_167 (lv_at hl 1 rfl) ?_
            have hF := va_free (wc := [(h0, .inr (0, [.int (nI cd), .ref va, .ref pa, .int (nI ns), .int (nI ng), .int (nI nst), .int (nI cu), .int (nI pn), .int (nI pl)])), (va, .inl (kA 0, 72, .inl (upd (upd (upd v (ns * 9 + 0) (nI mk)) (ns * 9 + 1) r_2) (ns * 9 + 2) (nI u9)))), (rw, .inr (1, [.ref ra, .int (nI ln), .int wd])), (ra, .inl (kA 0, 400, .inl f))]) hD hS hA [2, 3, 0, 1] rfl
            refine va_callv (va_runV (As := [.ref rw, .int (nI (mk + 10 + (2 * (cB cd)))), .int r_2, .int (nI u9)]) (rest := []) ⟨hx, hb, hml, hown, hts⟩ (c_X1_keepDataAndSum l D kA z h0 va pa cd ns ng nst cu pn pl rw ra ln wd f (mk + 10 + (2 * (cB cd))) u9 r_2 (upd (upd (upd v (ns * 9 + 0) (nI mk)) (ns * 9 + 1) r_2) (ns * 9 + 2) (nI u9)) (by first | assumption | omega) (by first | assumption | omega) (by first | assumption | omega) (by first | assumption | omega) (by first | assumption | omega) (by first | assumption | omega) (by first | assumption | omega) _) (cwV 4 hts h_X1_noteBehindMark_3 rfl rfl rfl (by decide +kernel) ⟨Nat.le_of_ble_eq_true rfl, Nat.le_of_ble_eq_true rfl⟩) (fPv hK hP hD hS hG hF [2, 3, 0, 1] (by decide) rfl 2 0 rfl rfl rfl) rfl rfl hl.1 rfl (lv_room (Nat.le_of_ble_eq_true rfl)) dX1_noteBehindMark_169 ⟨Nat.le_of_ble_eq_true rfl, Nat.le_of_ble_eq_true rfl⟩) hS (fun q _ h => hF q h) hF (fun w1 t H locs ht hvm hw hB hz1 hk1 hS => ?_)
            obtain ⟨hP, hD⟩ := fJ (wr := []) hP hD [2, 3, 0, 1] [] rfl rfl (by decide) (by decide) hk1 hF ht hB
            try dsimp only at hw
            obtain ⟨gd_1, v_1, rfl, hgd_1, kk_1, gg_1, dd_1⟩ := hw
            have hP : va_P D vwCl [(h0, .inr (0, [.int (nI cd), .ref va, .ref pa, .int (nI (ns + 1)), .int (nI (ng + gd_1)), .int (nI nst), .int (nI cu), .int (nI pn), .int (nI pl)])), (va, .inl (kA 0, 72, .inl v_1)), (rw, .inr (1, [.ref ra, .int (nI ln), .int wd])), (ra, .inl (kA 0, 400, .inl f))] H := hP
            have hD : va_D A [(h0, .inr (0, [.int (nI cd), .ref va, .ref pa, .int (nI (ns + 1)), .int (nI (ng + gd_1)), .int (nI nst), .int (nI cu), .int (nI pn), .int (nI pl)])), (va, .inl (kA 0, 72, .inl v_1)), (rw, .inr (1, [.ref ra, .int (nI ln), .int wd])), (ra, .inl (kA 0, 400, .inl f))] := hD
            refine lv_iload hx hb dX1_noteBehindMark_172 (lv_at hl 0 rfl) ?_
            have hv9 : ∀ j, j < ns * 9 → v_1 j = v j := fun j hj => by rw [kk_1 j (by omega), upd_ne _ _ (by omega), upd_ne _ _ (by omega), upd_ne _ _ (by omega)]
            have hs2_9 : sAll cd ln f v_1 (ns + 1) (mk + 10 + (u9 + 3) * cB cd) := hs.push hv9 ⟨mk, u9, by rw [kk_1 _ (by omega), upd_ne _ _ (by omega), upd_ne _ _ (by omega)]; exact upd_at _ _ _, by rw [kk_1 _ (by omega)]; exact upd_at _ _ _, hu1, hu4, Nat.le_refl _, rfl, by omega, hbt.1, hbt.2.1, hbt.2.2, ⟨gd_1, hgd_1, gg_1⟩, fun j hj => (dd_1 j hj).1, fun j h8 h9 => (dd_1 j h9).2 h8⟩
            have hn2_9 : ng + gd_1 = cntG v_1 (ns + 1) := by rw [cntG_push hv9 gg_1 hgd_1, hng]
            exact endI hx hb hr hlocks hK hP hD hS (⟨(ns + 1), (ng + gd_1), nst, cu, (mk + 10 + ((u9 + 3) * (cB cd))), v_1, rfl, by first | rfl | assumption | omega | (rw [if_pos (by omega)]; first | done | rfl) | (rw [if_neg (by omega)]; first | done | rfl), by first | rfl | assumption | omega | (rw [if_pos (by omega)]; first | done | rfl) | (rw [if_neg (by omega)]; first | done | rfl), by first | rfl | assumption | omega | (rw [if_pos (by omega)]; first | done | rfl) | (rw [if_neg (by omega)]; first | done | rfl), hs2_9, hn2_9, by first | rfl | assumption | omega | (rw [if_pos (by omega)]; first | done | rfl) | (rw [if_neg (by omega)]; first | done | rfl), by first | rfl | assumption | omega | (rw [if_pos (by omega)]; first | done | rfl) | (rw [if_neg (by omega)]; first | done | rfl)⟩) (Nat.le_of_ble_eq_true rfl) (Nat.le_of_ble_eq_true rfl) dX1_noteBehindMark_174
          ·
            rw [qle (a := (mk + 10 + ((u9 + 3) * (cB cd)))) (b := ln) (by omega) (by omega)] at c114
            refine lv_aload_n hx hb dX1_noteBehindMark_117 rfl (lv_at hl 5 rfl) ?_
            refine lv_iconst (v := nI 1) hx hb dX1_noteBehindMark_118 (by decide) ?_
            refine va_put (D := D) (ci := 0) (v := .int (nI 1)) (ty := .boolean) (C := RX1) (T := TX1) (N := 9) hx hb hts n_X1_noteBehindMark_X1 tyX1 tyX1_ok nmX1 hown hK hP hD hS 0 rfl rfl 6 (by decide) (wAt hts 17 (w := .fieldLink RX1 28 "FluxBench$Finds" "isCut" "Z") rfl) (fun _ h9 => h9) rfl (by decide +kernel) rfl rfl (Nat.le_of_ble_eq_true rfl) dX1_noteBehindMark_119 (fun H locs hP hD hS => ?_)
            have hP : va_P D vwCl [(h0, .inr (0, [.int (nI cd), .ref va, .ref pa, .int (nI ns), .int (nI ng), .int (nI nst), .int (nI 1), .int (nI pn), .int (nI pl)])), (va, .inl (kA 0, 72, .inl v)), (rw, .inr (1, [.ref ra, .int (nI ln), .int wd])), (ra, .inl (kA 0, 400, .inl f))] H := hP
            have hD : va_D A [(h0, .inr (0, [.int (nI cd), .ref va, .ref pa, .int (nI ns), .int (nI ng), .int (nI nst), .int (nI 1), .int (nI pn), .int (nI pl)])), (va, .inl (kA 0, 72, .inl v)), (rw, .inr (1, [.ref ra, .int (nI ln), .int wd])), (ra, .inl (kA 0, 400, .inl f))] := hD
            refine lv_iload hx hb dX1_noteBehindMark_122 (lv_at hl 0 rfl) ?_
            exact endI hx hb hr hlocks hK hP hD hS (⟨ns, ng, nst, 1, (mk + 10 + ((u9 + 3) * (cB cd))), v, rfl, by first | rfl | assumption | omega | (rw [if_pos (by omega)]; first | done | rfl) | (rw [if_neg (by omega)]; first | done | rfl), by first | rfl | assumption | omega | (rw [if_pos (by omega)]; first | done | rfl) | (rw [if_neg (by omega)]; first | done | rfl), by first | rfl | assumption | omega | (rw [if_pos (by omega)]; first | done | rfl) | (rw [if_neg (by omega)]; first | done | rfl), hs.le (by omega), by first | rfl | assumption | omega | (rw [if_pos (by omega)]; first | done | rfl) | (rw [if_neg (by omega)]; first | done | rfl), by first | rfl | assumption | omega | (rw [if_pos (by omega)]; first | done | rfl) | (rw [if_neg (by omega)]; first | done | rfl), by first | rfl | assumption | omega | (rw [if_pos (by omega)]; first | done | rfl) | (rw [if_neg (by omega)]; first | done | rfl)⟩) (Nat.le_of_ble_eq_true rfl) (Nat.le_of_ble_eq_true rfl) dX1_noteBehindMark_124
        ·
          refine lv_aload_n hx hb dX1_noteBehindMark_84 rfl (lv_at hl 4 rfl) ?_
          refine lv_dup hx hb dX1_noteBehindMark_85 rfl ?_
          refine va_get (D := D) (ci := 0) (v := .int (nI nst)) (C := RX1) (T := TX1) (N := 9) hx hb hts n_X1_noteBehindMark_X1 hown hK hP 0 rfl rfl 5 (by decide) (wAt hts 8 (w := .fieldLink RX1 25 "FluxBench$Finds" "strays" "I") rfl) (fun _ h9 => h9) rfl dX1_noteBehindMark_86 ?_
          refine lv_iconst (v := nI 1) hx hb dX1_noteBehindMark_89 (by decide) ?_
          refine lv_iadd hx hb dX1_noteBehindMark_90 ?_
          rw [nI_add nst 1]
          refine va_put (D := D) (ci := 0) (v := .int (nI (nst + 1))) (ty := .int) (C := RX1) (T := TX1) (N := 9) hx hb hts n_X1_noteBehindMark_X1 tyX1 tyX1_ok nmX1 hown hK hP hD hS 0 rfl rfl 5 (by decide) (wAt hts 8 (w := .fieldLink RX1 25 "FluxBench$Finds" "strays" "I") rfl) (fun _ h9 => h9) rfl (by decide +kernel) rfl rfl (Nat.le_of_ble_eq_true rfl) dX1_noteBehindMark_91 (fun H locs hP hD hS => ?_)
          have hP : va_P D vwCl [(h0, .inr (0, [.int (nI cd), .ref va, .ref pa, .int (nI ns), .int (nI ng), .int (nI (nst + 1)), .int (nI cu), .int (nI pn), .int (nI pl)])), (va, .inl (kA 0, 72, .inl v)), (rw, .inr (1, [.ref ra, .int (nI ln), .int wd])), (ra, .inl (kA 0, 400, .inl f))] H := hP
          have hD : va_D A [(h0, .inr (0, [.int (nI cd), .ref va, .ref pa, .int (nI ns), .int (nI ng), .int (nI (nst + 1)), .int (nI cu), .int (nI pn), .int (nI pl)])), (va, .inl (kA 0, 72, .inl v)), (rw, .inr (1, [.ref ra, .int (nI ln), .int wd])), (ra, .inl (kA 0, 400, .inl f))] := hD
          refine lv_iload hx hb dX1_noteBehindMark_94 (lv_at hl 2 rfl) ?_
          exact endI hx hb hr hlocks hK hP hD hS (⟨ns, ng, (nst + 1), cu, (mk + 10), v, rfl, by first | rfl | assumption | omega | (rw [if_pos (by omega)]; first | done | rfl) | (rw [if_neg (by omega)]; first | done | rfl), by first | rfl | assumption | omega | (rw [if_pos (by omega)]; first | done | rfl) | (rw [if_neg (by omega)]; first | done | rfl), by first | rfl | assumption | omega | (rw [if_pos (by omega)]; first | done | rfl) | (rw [if_neg (by omega)]; first | done | rfl), hs.le (by omega), by first | rfl | assumption | omega | (rw [if_pos (by omega)]; first | done | rfl) | (rw [if_neg (by omega)]; first | done | rfl), by first | rfl | assumption | omega | (rw [if_pos (by omega)]; first | done | rfl) | (rw [if_neg (by omega)]; first | done | rfl), by first | rfl | assumption | omega | (rw [if_pos (by omega)]; first | done | rfl) | (rw [if_neg (by omega)]; first | done | rfl)⟩) (Nat.le_of_ble_eq_true rfl) (Nat.le_of_ble_eq_true rfl) dX1_noteBehindMark_96
  ·
    rw [qle (a := (mk + 10 + (2 * (cB cd)))) (b := ln) (by omega) (by omega)] at c24
    refine lv_aload_n hx hb dX1_noteBehindMark_27 rfl (lv_at hl 2 rfl) ?_
    refine lv_dup hx hb dX1_noteBehindMark_28 rfl ?_
    refine va_get (D := D) (ci := 0) (v := .int (nI nst)) (C := RX1) (T := TX1) (N := 9) hx hb hts n_X1_noteBehindMark_X1 hown hK hP 0 rfl rfl 5 (by decide) (wAt hts 8 (w := .fieldLink RX1 25 "FluxBench$Finds" "strays" "I") rfl) (fun _ h9 => h9) rfl dX1_noteBehindMark_29 ?_
    refine lv_iconst (v := nI 1) hx hb dX1_noteBehindMark_32 (by decide) ?_
    refine lv_iadd hx hb dX1_noteBehindMark_33 ?_
    rw [nI_add nst 1]
    refine va_put (D := D) (ci := 0) (v := .int (nI (nst + 1))) (ty := .int) (C := RX1) (T := TX1) (N := 9) hx hb hts n_X1_noteBehindMark_X1 tyX1 tyX1_ok nmX1 hown hK hP hD hS 0 rfl rfl 5 (by decide) (wAt hts 8 (w := .fieldLink RX1 25 "FluxBench$Finds" "strays" "I") rfl) (fun _ h9 => h9) rfl (by decide +kernel) rfl rfl (Nat.le_of_ble_eq_true rfl) dX1_noteBehindMark_34 (fun H locs hP hD hS => ?_)
    have hP : va_P D vwCl [(h0, .inr (0, [.int (nI cd), .ref va, .ref pa, .int (nI ns), .int (nI ng), .int (nI (nst + 1)), .int (nI cu), .int (nI pn), .int (nI pl)])), (va, .inl (kA 0, 72, .inl v)), (rw, .inr (1, [.ref ra, .int (nI ln), .int wd])), (ra, .inl (kA 0, 400, .inl f))] H := hP
    have hD : va_D A [(h0, .inr (0, [.int (nI cd), .ref va, .ref pa, .int (nI ns), .int (nI ng), .int (nI (nst + 1)), .int (nI cu), .int (nI pn), .int (nI pl)])), (va, .inl (kA 0, 72, .inl v)), (rw, .inr (1, [.ref ra, .int (nI ln), .int wd])), (ra, .inl (kA 0, 400, .inl f))] := hD
    refine lv_iload hx hb dX1_noteBehindMark_37 (lv_at hl 0 rfl) ?_
    exact endI hx hb hr hlocks hK hP hD hS (⟨ns, ng, (nst + 1), cu, (mk + 10), v, rfl, by first | rfl | assumption | omega | (rw [if_pos (by omega)]; first | done | rfl) | (rw [if_neg (by omega)]; first | done | rfl), by first | rfl | assumption | omega | (rw [if_pos (by omega)]; first | done | rfl) | (rw [if_neg (by omega)]; first | done | rfl), by first | rfl | assumption | omega | (rw [if_pos (by omega)]; first | done | rfl) | (rw [if_neg (by omega)]; first | done | rfl), hs.le (by omega), by first | rfl | assumption | omega | (rw [if_pos (by omega)]; first | done | rfl) | (rw [if_neg (by omega)]; first | done | rfl), by first | rfl | assumption | omega | (rw [if_pos (by omega)]; first | done | rfl) | (rw [if_neg (by omega)]; first | done | rfl), by first | rfl | assumption | omega | (rw [if_pos (by omega)]; first | done | rfl) | (rw [if_neg (by omega)]; first | done | rfl)⟩) (Nat.le_of_ble_eq_true rfl) (Nat.le_of_ble_eq_true rfl) dX1_noteBehindMark_39

def wq_X1_look : List Cond := .code yX1_look cX1_look 6 none :: (([.fieldLink RX1 18 "FluxBench$Finds" "sectors" "I", .fieldLink RX1 22 "FluxBench$Finds" "goodOnes" "I", .fieldLink RX1 25 "FluxBench$Finds" "strays" "I", .fieldLink RX1 28 "FluxBench$Finds" "isCut" "Z", .fieldLink RX1 41 "FluxBench$Row" "length" "I", .methodLink RX1 54 yX1_planPlainCopy, .instanceMethod yX1_planPlainCopy, .selects RX1 yX1_planPlainCopy yX1_planPlainCopy, .initialized RX1, .methodLink RX1 46 yX2_at, .instanceMethod yX2_at, .selects RX2 yX2_at yX2_at, .initialized RX2, .methodLink RX1 50 yX1_noteBehindMark, .instanceMethod yX1_noteBehindMark, .selects RX1 yX1_noteBehindMark yX1_noteBehindMark] : List Cond) ++ (u_ws RX1 TX1 9 ++ (u_ws RX2 TX2 3 ++ (wq_X1_planPlainCopy ++ (wq_X2_at_b ++ (wq_X1_noteBehindMark ++ ([] : List Cond)))))))
theorem gd_X1_look : wq_X1_look.all goodWord = true := by decide +kernel
theorem n_X1_look_X1 : ∀ w ∈ u_ws RX1 TX1 9, w ∈ wq_X1_look := fun w h => List.mem_cons_of_mem _ (List.mem_append_right _ (List.mem_append_left _ h))
theorem n_X1_look_X2 : ∀ w ∈ u_ws RX2 TX2 3, w ∈ wq_X1_look := fun w h => List.mem_cons_of_mem _ (List.mem_append_right _ (List.mem_append_right _ (List.mem_append_left _ h)))
theorem h_X1_look_0 : GoodIn wq_X1_look (wsV RX1 54 RX1 yX1_planPlainCopy wq_X1_planPlainCopy) := goodIn_app (goodIn_r _ [6, 7, 8, 9] (by decide +kernel) (by decide +kernel)) (goodIn_sub (fun w h => List.mem_cons_of_mem _ (List.mem_append_right _ (List.mem_append_right _ (List.mem_append_right _ (List.mem_append_left _ h))))) gd_X1_planPlainCopy)
theorem h_X1_look_1 : GoodIn wq_X1_look (wsV RX1 46 RX2 yX2_at wq_X2_at_b) := goodIn_app (goodIn_r _ [10, 11, 12, 13] (by decide +kernel) (by decide +kernel)) (goodIn_sub (fun w h => List.mem_cons_of_mem _ (List.mem_append_right _ (List.mem_append_right _ (List.mem_append_right _ (List.mem_append_right _ (List.mem_append_left _ h)))))) gd_X2_at_b)
theorem h_X1_look_2 : GoodIn wq_X1_look (wsV RX1 50 RX1 yX1_noteBehindMark wq_X1_noteBehindMark) := goodIn_app (goodIn_r _ [14, 15, 16, 9] (by decide +kernel) (by decide +kernel)) (goodIn_sub (fun w h => List.mem_cons_of_mem _ (List.mem_append_right _ (List.mem_append_right _ (List.mem_append_right _ (List.mem_append_right _ (List.mem_append_right _ (List.mem_append_left _ h))))))) gd_X1_noteBehindMark)
set_option maxHeartbeats 4000000 in
set_option maxRecDepth 100000 in
theorem c_X1_look (l : Launch) (D : va_G) (kA : Nat → ClassId) (z : Nat) (h0 va pa cd ns ng nst cu pn pl : Nat) (rw ra ln : Nat) (wd : Int32) (f : Nat → Int32) (v ps : Nat → Int32) (h1 : ln ≤ 400) (hf : B01 f) (hcd : cd ≤ 2) : mV l D (tyL kA) z yX1_look wq_X1_look ({ frames := 5, cells := 0, slots := 0, locals := 144 }) [.ref h0, .ref rw] [(h0, .inr (0, [.int (nI cd), .ref va, .ref pa, .int (nI ns), .int (nI ng), .int (nI nst), .int (nI cu), .int (nI pn), .int (nI pl)])), (va, .inl (kA 0, 72, .inl v)), (pa, .inl (kA 0, 8, .inl ps)), (rw, .inr (1, [.ref ra, .int (nI ln), .int wd])), (ra, .inl (kA 0, 400, .inl f))] (fun w => ∃ (ns2 ng2 nst2 cu2 pn2 pl2 : Nat) (v2 ps2 : Nat → Int32), w = [(h0, .inr (0, [.int (nI cd), .ref va, .ref pa, .int (nI ns2), .int (nI ng2), .int (nI nst2), .int (nI cu2), .int (nI pn2), .int (nI pl2)])), (va, .inl (kA 0, 72, .inl v2)), (pa, .inl (kA 0, 8, .inl ps2)), (rw, .inr (1, [.ref ra, .int (nI ln), .int wd])), (ra, .inl (kA 0, 400, .inl f))] ∧ (FI cd ln f v2 ps2 ns2 ng2 pn2 pl2) ∧ (cu2 ≤ 1) ∧ (nst2 ≤ 400)) := by
  refine ofV (cc := cX1_look) (maxL := 6) RX1 rfl (by decide +kernel) rfl (Nat.le_of_ble_eq_true rfl) ?_
  intro p e s m args below meth c A ls hnm hE
  obtain ⟨hx, hb, hr, hml, hts, hown, hlocks, hA, hS, hP, hK, hD, hG, hl⟩ := hE
  have hl : lv_has ls 6 [(0, .ref h0), (1, .ref rw)] := hl
  have hH : s.heap = s.heap := rfl
  refine lv_aload_n hx hb dX1_look_0 rfl (lv_at hl 0 rfl) ?_
  refine lv_iconst (v := nI 0) hx hb dX1_look_1 (by decide) ?_
  refine va_put (D := D) (ci := 0) (v := .int (nI 0)) (ty := .int) (C := RX1) (T := TX1) (N := 9) hx hb hts n_X1_look_X1 tyX1 tyX1_ok nmX1 hown hK hP hD hS 0 rfl rfl 3 (by decide) (wAt hts 1 (w := .fieldLink RX1 18 "FluxBench$Finds" "sectors" "I") rfl) (fun _ h9 => h9) rfl (by decide +kernel) rfl rfl (Nat.le_of_ble_eq_true rfl) dX1_look_2 (fun H locs hP hD hS => ?_)
  have hP : va_P D vwCl [(h0, .inr (0, [.int (nI cd), .ref va, .ref pa, .int (nI 0), .int (nI ng), .int (nI nst), .int (nI cu), .int (nI pn), .int (nI pl)])), (va, .inl (kA 0, 72, .inl v)), (pa, .inl (kA 0, 8, .inl ps)), (rw, .inr (1, [.ref ra, .int (nI ln), .int wd])), (ra, .inl (kA 0, 400, .inl f))] H := hP
  have hD : va_D A [(h0, .inr (0, [.int (nI cd), .ref va, .ref pa, .int (nI 0), .int (nI ng), .int (nI nst), .int (nI cu), .int (nI pn), .int (nI pl)])), (va, .inl (kA 0, 72, .inl v)), (pa, .inl (kA 0, 8, .inl ps)), (rw, .inr (1, [.ref ra, .int (nI ln), .int wd])), (ra, .inl (kA 0, 400, .inl f))] := hD
  refine lv_aload_n hx hb dX1_look_5 rfl (lv_at hl 0 rfl) ?_
  refine lv_iconst (v := nI 0) hx hb dX1_look_6 (by decide) ?_
  refine va_put (D := D) (ci := 0) (v := .int (nI 0)) (ty := .int) (C := RX1) (T := TX1) (N := 9) hx hb hts n_X1_look_X1 tyX1 tyX1_ok nmX1 hown hK hP hD hS 0 rfl rfl 4 (by decide) (wAt hts 2 (w := .fieldLink RX1 22 "FluxBench$Finds" "goodOnes" "I") rfl) (fun _ h9 => h9) rfl (by decide +kernel) rfl rfl (Nat.le_of_ble_eq_true rfl) dX1_look_7 (fun H locs hP hD hS => ?_)
  have hP : va_P D vwCl [(h0, .inr (0, [.int (nI cd), .ref va, .ref pa, .int (nI 0), .int (nI 0), .int (nI nst), .int (nI cu), .int (nI pn), .int (nI pl)])), (va, .inl (kA 0, 72, .inl v)), (pa, .inl (kA 0, 8, .inl ps)), (rw, .inr (1, [.ref ra, .int (nI ln), .int wd])), (ra, .inl (kA 0, 400, .inl f))] H := hP
  have hD : va_D A [(h0, .inr (0, [.int (nI cd), .ref va, .ref pa, .int (nI 0), .int (nI 0), .int (nI nst), .int (nI cu), .int (nI pn), .int (nI pl)])), (va, .inl (kA 0, 72, .inl v)), (pa, .inl (kA 0, 8, .inl ps)), (rw, .inr (1, [.ref ra, .int (nI ln), .int wd])), (ra, .inl (kA 0, 400, .inl f))] := hD
  refine lv_aload_n hx hb dX1_look_10 rfl (lv_at hl 0 rfl) ?_
  refine lv_iconst (v := nI 0) hx hb dX1_look_11 (by decide) ?_
  refine va_put (D := D) (ci := 0) (v := .int (nI 0)) (ty := .int) (C := RX1) (T := TX1) (N := 9) hx hb hts n_X1_look_X1 tyX1 tyX1_ok nmX1 hown hK hP hD hS 0 rfl rfl 5 (by decide) (wAt hts 3 (w := .fieldLink RX1 25 "FluxBench$Finds" "strays" "I") rfl) (fun _ h9 => h9) rfl (by decide +kernel) rfl rfl (Nat.le_of_ble_eq_true rfl) dX1_look_12 (fun H locs hP hD hS => ?_)
  have hP : va_P D vwCl [(h0, .inr (0, [.int (nI cd), .ref va, .ref pa, .int (nI 0), .int (nI 0), .int (nI 0), .int (nI cu), .int (nI pn), .int (nI pl)])), (va, .inl (kA 0, 72, .inl v)), (pa, .inl (kA 0, 8, .inl ps)), (rw, .inr (1, [.ref ra, .int (nI ln), .int wd])), (ra, .inl (kA 0, 400, .inl f))] H := hP
  have hD : va_D A [(h0, .inr (0, [.int (nI cd), .ref va, .ref pa, .int (nI 0), .int (nI 0), .int (nI 0), .int (nI cu), .int (nI pn), .int (nI pl)])), (va, .inl (kA 0, 72, .inl v)), (pa, .inl (kA 0, 8, .inl ps)), (rw, .inr (1, [.ref ra, .int (nI ln), .int wd])), (ra, .inl (kA 0, 400, .inl f))] := hD
  refine lv_aload_n hx hb dX1_look_15 rfl (lv_at hl 0 rfl) ?_
  refine lv_iconst (v := nI 0) hx hb dX1_look_16 (by decide) ?_
  refine va_put (D := D) (ci := 0) (v := .int (nI 0)) (ty := .boolean) (C := RX1) (T := TX1) (N := 9) hx hb hts n_X1_look_X1 tyX1 tyX1_ok nmX1 hown hK hP hD hS 0 rfl rfl 6 (by decide) (wAt hts 4 (w := .fieldLink RX1 28 "FluxBench$Finds" "isCut" "Z") rfl) (fun _ h9 => h9) rfl (by decide +kernel) rfl rfl (Nat.le_of_ble_eq_true rfl) dX1_look_17 (fun H locs hP hD hS => ?_)
  have hP : va_P D vwCl [(h0, .inr (0, [.int (nI cd), .ref va, .ref pa, .int (nI 0), .int (nI 0), .int (nI 0), .int (nI 0), .int (nI pn), .int (nI pl)])), (va, .inl (kA 0, 72, .inl v)), (pa, .inl (kA 0, 8, .inl ps)), (rw, .inr (1, [.ref ra, .int (nI ln), .int wd])), (ra, .inl (kA 0, 400, .inl f))] H := hP
  have hD : va_D A [(h0, .inr (0, [.int (nI cd), .ref va, .ref pa, .int (nI 0), .int (nI 0), .int (nI 0), .int (nI 0), .int (nI pn), .int (nI pl)])), (va, .inl (kA 0, 72, .inl v)), (pa, .inl (kA 0, 8, .inl ps)), (rw, .inr (1, [.ref ra, .int (nI ln), .int wd])), (ra, .inl (kA 0, 400, .inl f))] := hD
  refine lv_iconst (v := nI 0) hx hb dX1_look_20 (by decide) ?_
  refine lv_istore_n (lv' := [(2, .int (nI 0)), (0, .ref h0), (1, .ref rw)]) hx hb dX1_look_21 rfl hl (by decide) rfl (fun ls hl => ?_)
  refine lv_iconst (v := nI 0) hx hb dX1_look_22 (by decide) ?_
  refine lv_istore_n (lv' := [(3, .int (nI 0)), (2, .int (nI 0)), (0, .ref h0), (1, .ref rw)]) hx hb dX1_look_23 rfl hl (by decide) rfl (fun ls hl => ?_)
  refine lv_iconst (v := nI 0) hx hb dX1_look_24 (by decide) ?_
  refine lv_istore (lv' := [(4, .int (nI 0)), (3, .int (nI 0)), (2, .int (nI 0)), (0, .ref h0), (1, .ref rw)]) hx hb dX1_look_25 hl (by decide) rfl (fun ls hl => ?_)
  have lp_27 : ∀ (n_27 : Nat) (en : Nat) (lv : Nat) (go : Nat) (ns9 : Nat) (ng9 : Nat) (nst9 : Nat) (cu9 : Nat) (g : Nat → Int32), ln - en < n_27 → (en ≤ ln) → (lv = lc f en) → (go ≤ 1000) → (sAll cd ln f g ns9 go) → (ng9 = cntG g ns9) → (cu9 ≤ 1) → (nst9 ≤ en) → ∀ (H : Heap) (locs : List Loc) (ls : Array Slot), va_P D vwCl [(h0, .inr (0, [.int (nI cd), .ref va, .ref pa, .int (nI ns9), .int (nI ng9), .int (nI nst9), .int (nI cu9), .int (nI pn), .int (nI pl)])), (va, .inl (kA 0, 72, .inl g)), (pa, .inl (kA 0, 8, .inl ps)), (rw, .inr (1, [.ref ra, .int (nI ln), .int wd])), (ra, .inl (kA 0, 400, .inl f))] H → va_D A [(h0, .inr (0, [.int (nI cd), .ref va, .ref pa, .int (nI ns9), .int (nI ng9), .int (nI nst9), .int (nI cu9), .int (nI pn), .int (nI pl)])), (va, .inl (kA 0, 72, .inl g)), (pa, .inl (kA 0, 8, .inl ps)), (rw, .inr (1, [.ref ra, .int (nI ln), .int wd])), (ra, .inl (kA 0, 400, .inl f))] → va_S A s.heap H locs → lv_has ls 6 [(4, .int (nI en)), (3, .int (nI lv)), (2, .int (nI go)), (0, .ref h0), (1, .ref rw)] → W p l e ({ frames := 5, cells := 0, slots := 0, locals := 144 }) s m args below meth c H locs 0 0 (MQ below (va_Qv (fun w => ∃ (ns2 ng2 nst2 cu2 pn2 pl2 : Nat) (v2 ps2 : Nat → Int32), w = [(h0, .inr (0, [.int (nI cd), .ref va, .ref pa, .int (nI ns2), .int (nI ng2), .int (nI nst2), .int (nI cu2), .int (nI pn2), .int (nI pl2)])), (va, .inl (kA 0, 72, .inl v2)), (pa, .inl (kA 0, 8, .inl ps2)), (rw, .inr (1, [.ref ra, .int (nI ln), .int wd])), (ra, .inl (kA 0, 400, .inl f))] ∧ (FI cd ln f v2 ps2 ns2 ng2 pn2 pl2) ∧ (cu2 ≤ 1) ∧ (nst2 ≤ 400)) (fB D (tyL kA) A) A) args s 0 0 A) (F0 m 27 ls []) := by
    clear hP hD hS hl
    intro n_27
    induction n_27 with
    | zero =>
      intro en lv go ns9 ng9 nst9 cu9 g hm_27 hen hlv hgo hs9 hng9 hcu9 hst9
      exact absurd hm_27 (by omega)
    | succ n_27 ih_27 =>
      intro en lv go ns9 ng9 nst9 cu9 g hm_27 hen hlv hgo hs9 hng9 hcu9 hst9 H locs ls hP hD hS hl
      have hlt := lc_lt f en
      rw [← hlv] at hlt
      have hnl := sAll.lenL hs9
      refine lv_iload hx hb dX1_look_27 (lv_at hl 0 rfl) ?_
      refine lv_aload_n hx hb dX1_look_29 rfl (lv_at hl 4 rfl) ?_
      refine va_get (D := D) (ci := 1) (v := .int (nI ln)) (C := RX2) (T := TX2) (N := 3) hx hb hts n_X1_look_X2 hown hK hP 3 rfl rfl 1 (by decide) (wAt hts 5 (w := .fieldLink RX1 41 "FluxBench$Row" "length" "I") rfl) (fun _ h9 => h9) rfl dX1_look_30 ?_
      refine lv_icmp_ge (tgt := 94) hx hb dX1_look_33 (by decide) (fun c33 => ?_) (fun c33 => ?_)
      ·
        rw [qle (a := ln) (b := en) (by omega) (by omega)] at c33
        refine lv_aload_n hx hb dX1_look_94 rfl (lv_at hl 3 rfl) ?_
        have hF := va_free (wc := [(h0, .inr (0, [.int (nI cd), .ref va, .ref pa, .int (nI ns9), .int (nI ng9), .int (nI nst9), .int (nI cu9), .int (nI pn), .int (nI pl)])), (va, .inl (kA 0, 72, .inl g)), (pa, .inl (kA 0, 8, .inl ps))]) hD hS hA [0, 1, 2] rfl
        refine va_callv (va_runV (As := []) (rest := []) ⟨hx, hb, hml, hown, hts⟩ (c_X1_planPlainCopy l D kA z h0 va pa cd ns9 ng9 nst9 cu9 pn pl g ps (by first | assumption | omega) (by first | assumption | omega) hs9.cnt _) (cwV 0 hts h_X1_look_0 rfl rfl rfl (by decide +kernel) ⟨Nat.le_of_ble_eq_true rfl, Nat.le_of_ble_eq_true rfl⟩) (fPv hK hP hD hS hG hF [0, 1, 2] (by decide) rfl 0 0 rfl rfl rfl) rfl rfl hl.1 rfl (lv_room (Nat.le_of_ble_eq_true rfl)) dX1_look_95 ⟨Nat.le_of_ble_eq_true rfl, Nat.le_of_ble_eq_true rfl⟩) hS (fun q _ h => hF q h) hF (fun w1 t H locs ht hvm hw hB hz1 hk1 hS => ?_)
        obtain ⟨hP, hD⟩ := fJ (wr := [(rw, .inr (1, [.ref ra, .int (nI ln), .int wd])), (ra, .inl (kA 0, 400, .inl f))]) hP hD [0, 1, 2] [3, 4] rfl rfl (by decide) (by decide) hk1 hF ht hB
        try dsimp only at hw
        obtain ⟨pn_1, pl_1, ps_1, rfl, q_1, gg_1⟩ := hw
        have hP : va_P D vwCl [(rw, .inr (1, [.ref ra, .int (nI ln), .int wd])), (ra, .inl (kA 0, 400, .inl f)), (h0, .inr (0, [.int (nI cd), .ref va, .ref pa, .int (nI ns9), .int (nI ng9), .int (nI nst9), .int (nI cu9), .int (nI pn_1), .int (nI pl_1)])), (va, .inl (kA 0, 72, .inl g)), (pa, .inl (kA 0, 8, .inl ps_1))] H := hP
        have hD : va_D A [(rw, .inr (1, [.ref ra, .int (nI ln), .int wd])), (ra, .inl (kA 0, 400, .inl f)), (h0, .inr (0, [.int (nI cd), .ref va, .ref pa, .int (nI ns9), .int (nI ng9), .int (nI nst9), .int (nI cu9), .int (nI pn_1), .int (nI pl_1)])), (va, .inl (kA 0, 72, .inl g)), (pa, .inl (kA 0, 8, .inl ps_1))] := hD
        have hP := hP.sub (ws' := [(h0, .inr (0, [.int (nI cd), .ref va, .ref pa, .int (nI ns9), .int (nI ng9), .int (nI nst9), .int (nI cu9), .int (nI pn_1), .int (nI pl_1)])), (va, .inl (kA 0, 72, .inl g)), (pa, .inl (kA 0, 8, .inl ps_1)), (rw, .inr (1, [.ref ra, .int (nI ln), .int wd])), (ra, .inl (kA 0, 400, .inl f))]) [2, 3, 4, 0, 1] rfl
        have hD := hD.sub (ws' := [(h0, .inr (0, [.int (nI cd), .ref va, .ref pa, .int (nI ns9), .int (nI ng9), .int (nI nst9), .int (nI cu9), .int (nI pn_1), .int (nI pl_1)])), (va, .inl (kA 0, 72, .inl g)), (pa, .inl (kA 0, 8, .inl ps_1)), (rw, .inr (1, [.ref ra, .int (nI ln), .int wd])), (ra, .inl (kA 0, 400, .inl f))]) [2, 3, 4, 0, 1] (by decide) rfl
        exact endV hx hb hr hlocks hK hP hD hS (⟨ns9, ng9, nst9, cu9, pn_1, pl_1, g, ps_1, rfl, ⟨by omega, hs9.toL, hng9, q_1, by rw [hng9]; exact gg_1⟩, by first | rfl | assumption | omega | (rw [if_pos (by omega)]; first | done | rfl) | (rw [if_neg (by omega)]; first | done | rfl), by first | rfl | assumption | omega | (rw [if_pos (by omega)]; first | done | rfl) | (rw [if_neg (by omega)]; first | done | rfl)⟩) (Nat.le_of_ble_eq_true rfl) (Nat.le_of_ble_eq_true rfl) dX1_look_98
      ·
        rw [qle (a := ln) (b := en) (by omega) (by omega)] at c33
        refine lv_aload_n hx hb dX1_look_36 rfl (lv_at hl 3 rfl) ?_
        refine va_get (D := D) (ci := 0) (v := .int (nI cu9)) (C := RX1) (T := TX1) (N := 9) hx hb hts n_X1_look_X1 hown hK hP 0 rfl rfl 6 (by decide) (wAt hts 4 (w := .fieldLink RX1 28 "FluxBench$Finds" "isCut" "Z") rfl) (fun _ h9 => h9) rfl dX1_look_37 ?_
        refine lv_if_ne (tgt := 94) hx hb dX1_look_40 (by decide) (fun c40 => ?_) (fun c40 => ?_)
        ·
          rw [qz (a := cu9) (by omega)] at c40
          refine lv_aload_n hx hb dX1_look_94 rfl (lv_at hl 3 rfl) ?_
          have hF := va_free (wc := [(h0, .inr (0, [.int (nI cd), .ref va, .ref pa, .int (nI ns9), .int (nI ng9), .int (nI nst9), .int (nI cu9), .int (nI pn), .int (nI pl)])), (va, .inl (kA 0, 72, .inl g)), (pa, .inl (kA 0, 8, .inl ps))]) hD hS hA [0, 1, 2] rfl
          refine va_callv (va_runV (As := []) (rest := []) ⟨hx, hb, hml, hown, hts⟩ (c_X1_planPlainCopy l D kA z h0 va pa cd ns9 ng9 nst9 cu9 pn pl g ps (by first | assumption | omega) (by first | assumption | omega) hs9.cnt _) (cwV 0 hts h_X1_look_0 rfl rfl rfl (by decide +kernel) ⟨Nat.le_of_ble_eq_true rfl, Nat.le_of_ble_eq_true rfl⟩) (fPv hK hP hD hS hG hF [0, 1, 2] (by decide) rfl 0 0 rfl rfl rfl) rfl rfl hl.1 rfl (lv_room (Nat.le_of_ble_eq_true rfl)) dX1_look_95 ⟨Nat.le_of_ble_eq_true rfl, Nat.le_of_ble_eq_true rfl⟩) hS (fun q _ h => hF q h) hF (fun w1 t H locs ht hvm hw hB hz1 hk1 hS => ?_)
          obtain ⟨hP, hD⟩ := fJ (wr := [(rw, .inr (1, [.ref ra, .int (nI ln), .int wd])), (ra, .inl (kA 0, 400, .inl f))]) hP hD [0, 1, 2] [3, 4] rfl rfl (by decide) (by decide) hk1 hF ht hB
          try dsimp only at hw
          obtain ⟨pn_2, pl_2, ps_2, rfl, q_2, gg_2⟩ := hw
          have hP : va_P D vwCl [(rw, .inr (1, [.ref ra, .int (nI ln), .int wd])), (ra, .inl (kA 0, 400, .inl f)), (h0, .inr (0, [.int (nI cd), .ref va, .ref pa, .int (nI ns9), .int (nI ng9), .int (nI nst9), .int (nI cu9), .int (nI pn_2), .int (nI pl_2)])), (va, .inl (kA 0, 72, .inl g)), (pa, .inl (kA 0, 8, .inl ps_2))] H := hP
          have hD : va_D A [(rw, .inr (1, [.ref ra, .int (nI ln), .int wd])), (ra, .inl (kA 0, 400, .inl f)), (h0, .inr (0, [.int (nI cd), .ref va, .ref pa, .int (nI ns9), .int (nI ng9), .int (nI nst9), .int (nI cu9), .int (nI pn_2), .int (nI pl_2)])), (va, .inl (kA 0, 72, .inl g)), (pa, .inl (kA 0, 8, .inl ps_2))] := hD
          have hP := hP.sub (ws' := [(h0, .inr (0, [.int (nI cd), .ref va, .ref pa, .int (nI ns9), .int (nI ng9), .int (nI nst9), .int (nI cu9), .int (nI pn_2), .int (nI pl_2)])), (va, .inl (kA 0, 72, .inl g)), (pa, .inl (kA 0, 8, .inl ps_2)), (rw, .inr (1, [.ref ra, .int (nI ln), .int wd])), (ra, .inl (kA 0, 400, .inl f))]) [2, 3, 4, 0, 1] rfl
          have hD := hD.sub (ws' := [(h0, .inr (0, [.int (nI cd), .ref va, .ref pa, .int (nI ns9), .int (nI ng9), .int (nI nst9), .int (nI cu9), .int (nI pn_2), .int (nI pl_2)])), (va, .inl (kA 0, 72, .inl g)), (pa, .inl (kA 0, 8, .inl ps_2)), (rw, .inr (1, [.ref ra, .int (nI ln), .int wd])), (ra, .inl (kA 0, 400, .inl f))]) [2, 3, 4, 0, 1] (by decide) rfl
          exact endV hx hb hr hlocks hK hP hD hS (⟨ns9, ng9, nst9, cu9, pn_2, pl_2, g, ps_2, rfl, ⟨by omega, hs9.toL, hng9, q_2, by rw [hng9]; exact gg_2⟩, by first | rfl | assumption | omega | (rw [if_pos (by omega)]; first | done | rfl) | (rw [if_neg (by omega)]; first | done | rfl), by first | rfl | assumption | omega | (rw [if_pos (by omega)]; first | done | rfl) | (rw [if_neg (by omega)]; first | done | rfl)⟩) (Nat.le_of_ble_eq_true rfl) (Nat.le_of_ble_eq_true rfl) dX1_look_98
        ·
          rw [qz (a := cu9) (by omega)] at c40
          refine lv_iconst (v := nI 2) hx hb dX1_look_43 (by decide) ?_
          refine lv_iload_n hx hb dX1_look_44 rfl (lv_at hl 1 rfl) ?_
          refine lv_imul hx hb dX1_look_45 ?_
          rw [pk_mul 2 lv]
          refine lv_aload_n hx hb dX1_look_46 rfl (lv_at hl 4 rfl) ?_
          refine lv_iload hx hb dX1_look_47 (lv_at hl 0 rfl) ?_
          have hF := va_free (wc := [(rw, .inr (1, [.ref ra, .int (nI ln), .int wd])), (ra, .inl (kA 0, 400, .inl f))]) hD hS hA [3, 4] rfl
          refine va_calli (va_runV (As := [.int (nI en)]) (rest := [.int (nI (2 * lv))]) ⟨hx, hb, hml, hown, hts⟩ (c_X2_at_b l D kA z rw ra ln en wd f (by first | assumption | omega) (by first | assumption | omega) (by first | assumption | omega) _) (cwV 1 hts h_X1_look_1 rfl rfl rfl (by decide +kernel) ⟨Nat.le_of_ble_eq_true rfl, Nat.le_of_ble_eq_true rfl⟩) (fPv hK hP hD hS hG hF [3, 4] (by decide) rfl 3 1 rfl rfl rfl) rfl rfl hl.1 rfl (lv_room (Nat.le_of_ble_eq_true rfl)) dX1_look_49 ⟨Nat.le_of_ble_eq_true rfl, Nat.le_of_ble_eq_true rfl⟩) hS (fun q _ h => hF q h) hF (fun r_1 w1 t H locs ht hvm hw hB hz1 hk1 hS => ?_)
          obtain ⟨hP, hD⟩ := fJ (wr := [(h0, .inr (0, [.int (nI cd), .ref va, .ref pa, .int (nI ns9), .int (nI ng9), .int (nI nst9), .int (nI cu9), .int (nI pn), .int (nI pl)])), (va, .inl (kA 0, 72, .inl g)), (pa, .inl (kA 0, 8, .inl ps))]) hP hD [3, 4] [0, 1, 2] rfl rfl (by decide) (by decide) hk1 hF ht hB
          try dsimp only at hw
          obtain ⟨b_1, rfl, hb_1, e_1, e_2⟩ := hw
          replace e_1 := e_1.symm
          subst e_1
          have hP : va_P D vwCl [(h0, .inr (0, [.int (nI cd), .ref va, .ref pa, .int (nI ns9), .int (nI ng9), .int (nI nst9), .int (nI cu9), .int (nI pn), .int (nI pl)])), (va, .inl (kA 0, 72, .inl g)), (pa, .inl (kA 0, 8, .inl ps)), (rw, .inr (1, [.ref ra, .int (nI ln), .int wd])), (ra, .inl (kA 0, 400, .inl f))] H := hP
          have hD : va_D A [(h0, .inr (0, [.int (nI cd), .ref va, .ref pa, .int (nI ns9), .int (nI ng9), .int (nI nst9), .int (nI cu9), .int (nI pn), .int (nI pl)])), (va, .inl (kA 0, 72, .inl g)), (pa, .inl (kA 0, 8, .inl ps)), (rw, .inr (1, [.ref ra, .int (nI ln), .int wd])), (ra, .inl (kA 0, 400, .inl f))] := hD
          refine lv_iadd hx hb dX1_look_52 ?_
          rw [nI_add (2 * lv) b_1]
          refine lv_sipush (v := nI 1024) hx hb dX1_look_53 (by decide) ?_
          refine lv_irem hx hb dX1_look_56 (by decide) ?_
          rw [pk_rem (a := (2 * lv + b_1)) (d := 1024) (by omega) (by omega) (by omega)]
          refine lv_istore_n (lv' := [(3, .int (nI ((2 * lv + b_1) % 1024))), (4, .int (nI en)), (2, .int (nI go)), (0, .ref h0), (1, .ref rw)]) hx hb dX1_look_57 rfl hl (by decide) rfl (fun ls hl => ?_)
          refine lv_iload hx hb dX1_look_58 (lv_at hl 1 rfl) ?_
          refine lv_iconst (v := nI 1) hx hb dX1_look_60 (by decide) ?_
          refine lv_iadd hx hb dX1_look_61 ?_
          rw [nI_add en 1]
          refine lv_bipush (v := nI 10) hx hb dX1_look_62 (by decide) ?_
          by_cases h10 : 10 ≤ en + 1
          ·
            refine lv_isub hx hb dX1_look_64 ?_
            rw [pk_sub (a := (en + 1)) (b := 10) (by omega)]
            refine lv_istore (lv' := [(5, .int (nI (en + 1 - 10))), (3, .int (nI ((2 * lv + b_1) % 1024))), (4, .int (nI en)), (2, .int (nI go)), (0, .ref h0), (1, .ref rw)]) hx hb dX1_look_65 hl (by decide) rfl (fun ls hl => ?_)
            refine lv_iload hx hb dX1_look_67 (lv_at hl 0 rfl) ?_
            refine lv_iload_n hx hb dX1_look_69 rfl (lv_at hl 3 rfl) ?_
            refine lv_icmp_lt (tgt := 88) hx hb dX1_look_70 (by decide) (fun c70 => ?_) (fun c70 => ?_)
            ·
              rw [qlt (a := (en + 1 - 10)) (b := go) (by omega) (by omega)] at c70
              refine lv_iinc (v := nI (en + 1)) (lv' := [(4, .int (nI (en + 1))), (5, .int (nI (en + 1 - 10))), (3, .int (nI ((2 * lv + b_1) % 1024))), (2, .int (nI go)), (0, .ref h0), (1, .ref rw)]) hx hb dX1_look_88 hl (k := 2) rfl (nI_add en 1) (by decide) rfl (fun ls hl => ?_)
              refine lv_goto (tgt := 27) hx hb dX1_look_91 (by decide) ?_
              exact ih_27 (en + 1) ((2 * lv + b_1) % 1024) go ns9 ng9 nst9 cu9 g (by omega) (by first | assumption | omega | rfl) (lc_b hlv (e_2 (by omega)) hb_1) (by first | assumption | omega | rfl) (by first | assumption | omega | rfl) (by first | assumption | omega | rfl) (by first | assumption | omega | rfl) (by first | assumption | omega | rfl) _ _ _ (hP.sub [0, 1, 2, 3, 4] rfl) (hD.sub [0, 1, 2, 3, 4] (by decide) rfl) hS (lv_sub hl [0, 2, 3, 4, 5] rfl)
            ·
              rw [qlt (a := (en + 1 - 10)) (b := go) (by omega) (by omega)] at c70
              refine lv_iload_n hx hb dX1_look_73 rfl (lv_at hl 1 rfl) ?_
              refine lv_sipush (v := nI 529) hx hb dX1_look_74 (by decide) ?_
              refine lv_icmp_ne (tgt := 88) hx hb dX1_look_77 (by decide) (fun c77 => ?_) (fun c77 => ?_)
              ·
                rw [qeq (a := ((2 * lv + b_1) % 1024)) (b := 529) (by omega) (by omega)] at c77
                refine lv_iinc (v := nI (en + 1)) (lv' := [(4, .int (nI (en + 1))), (5, .int (nI (en + 1 - 10))), (3, .int (nI ((2 * lv + b_1) % 1024))), (2, .int (nI go)), (0, .ref h0), (1, .ref rw)]) hx hb dX1_look_88 hl (k := 2) rfl (nI_add en 1) (by decide) rfl (fun ls hl => ?_)
                refine lv_goto (tgt := 27) hx hb dX1_look_91 (by decide) ?_
                exact ih_27 (en + 1) ((2 * lv + b_1) % 1024) go ns9 ng9 nst9 cu9 g (by omega) (by first | assumption | omega | rfl) (lc_b hlv (e_2 (by omega)) hb_1) (by first | assumption | omega | rfl) (by first | assumption | omega | rfl) (by first | assumption | omega | rfl) (by first | assumption | omega | rfl) (by first | assumption | omega | rfl) _ _ _ (hP.sub [0, 1, 2, 3, 4] rfl) (hD.sub [0, 1, 2, 3, 4] (by decide) rfl) hS (lv_sub hl [0, 2, 3, 4, 5] rfl)
              ·
                rw [qeq (a := ((2 * lv + b_1) % 1024)) (b := 529) (by omega) (by omega)] at c77
                have hmk9 : lc f ((en + 1 - 10) + 10) = 529 := by rw [show (en + 1 - 10) + 10 = en + 1 by omega, ← lc_b hlv (e_2 (by omega)) hb_1]; exact c77
                refine lv_aload_n hx hb dX1_look_80 rfl (lv_at hl 4 rfl) ?_
                refine lv_aload_n hx hb dX1_look_81 rfl (lv_at hl 5 rfl) ?_
                refine lv_iload hx hb dX1_look_82 (lv_at hl 0 rfl) ?_
                have hF := va_free (wc := [(h0, .inr (0, [.int (nI cd), .ref va, .ref pa, .int (nI ns9), .int (nI ng9), .int (nI nst9), .int (nI cu9), .int (nI pn), .int (nI pl)])), (va, .inl (kA 0, 72, .inl g)), (rw, .inr (1, [.ref ra, .int (nI ln), .int wd])), (ra, .inl (kA 0, 400, .inl f))]) hD hS hA [0, 1, 3, 4] rfl
                refine va_calli (va_runV (As := [.ref rw, .int (nI (en + 1 - 10))]) (rest := []) ⟨hx, hb, hml, hown, hts⟩ (c_X1_noteBehindMark l D kA z h0 va pa cd ns9 ng9 nst9 cu9 pn pl rw ra ln wd f (en + 1 - 10) g (by first | assumption | omega) (by first | assumption | omega) (by first | assumption | omega) (by first | assumption | omega) (lc_mark hf hmk9) (hs9.le (by omega)) (by first | assumption | omega) (by first | assumption | omega) (by first | assumption | omega) _) (cwV 2 hts h_X1_look_2 rfl rfl rfl (by decide +kernel) ⟨Nat.le_of_ble_eq_true rfl, Nat.le_of_ble_eq_true rfl⟩) (fPv hK hP hD hS hG hF [0, 1, 3, 4] (by decide) rfl 0 0 rfl rfl rfl) rfl rfl hl.1 rfl (lv_room (Nat.le_of_ble_eq_true rfl)) dX1_look_84 ⟨Nat.le_of_ble_eq_true rfl, Nat.le_of_ble_eq_true rfl⟩) hS (fun q _ h => hF q h) hF (fun r_2 w1 t H locs ht hvm hw hB hz1 hk1 hS => ?_)
                obtain ⟨hP, hD⟩ := fJ (wr := [(pa, .inl (kA 0, 8, .inl ps))]) hP hD [0, 1, 3, 4] [2] rfl rfl (by decide) (by decide) hk1 hF ht hB
                try dsimp only at hw
                obtain ⟨ns_1, ng_1, nst_1, cu_1, g_1, v_1, rfl, e_3, hg_1, hg_2, hs_1, hn_1, hc_1, hst_1⟩ := hw
                replace e_3 := e_3.symm
                subst e_3
                have hP : va_P D vwCl [(pa, .inl (kA 0, 8, .inl ps)), (h0, .inr (0, [.int (nI cd), .ref va, .ref pa, .int (nI ns_1), .int (nI ng_1), .int (nI nst_1), .int (nI cu_1), .int (nI pn), .int (nI pl)])), (va, .inl (kA 0, 72, .inl v_1)), (rw, .inr (1, [.ref ra, .int (nI ln), .int wd])), (ra, .inl (kA 0, 400, .inl f))] H := hP
                have hD : va_D A [(pa, .inl (kA 0, 8, .inl ps)), (h0, .inr (0, [.int (nI cd), .ref va, .ref pa, .int (nI ns_1), .int (nI ng_1), .int (nI nst_1), .int (nI cu_1), .int (nI pn), .int (nI pl)])), (va, .inl (kA 0, 72, .inl v_1)), (rw, .inr (1, [.ref ra, .int (nI ln), .int wd])), (ra, .inl (kA 0, 400, .inl f))] := hD
                refine lv_istore_n (lv' := [(2, .int (nI g_1)), (5, .int (nI (en + 1 - 10))), (3, .int (nI ((2 * lv + b_1) % 1024))), (4, .int (nI en)), (0, .ref h0), (1, .ref rw)]) hx hb dX1_look_87 rfl hl (by decide) rfl (fun ls hl => ?_)
                refine lv_iinc (v := nI (en + 1)) (lv' := [(4, .int (nI (en + 1))), (2, .int (nI g_1)), (5, .int (nI (en + 1 - 10))), (3, .int (nI ((2 * lv + b_1) % 1024))), (0, .ref h0), (1, .ref rw)]) hx hb dX1_look_88 hl (k := 3) rfl (nI_add en 1) (by decide) rfl (fun ls hl => ?_)
                refine lv_goto (tgt := 27) hx hb dX1_look_91 (by decide) ?_
                exact ih_27 (en + 1) ((2 * lv + b_1) % 1024) g_1 ns_1 ng_1 nst_1 cu_1 v_1 (by omega) (by first | assumption | omega | rfl) (lc_b hlv (e_2 (by omega)) hb_1) (by first | assumption | omega | rfl) (by first | assumption | omega | rfl) (by first | assumption | omega | rfl) (by first | assumption | omega | rfl) (by first | assumption | omega | rfl) _ _ _ (hP.sub [1, 2, 0, 3, 4] rfl) (hD.sub [1, 2, 0, 3, 4] (by decide) rfl) hS (lv_sub hl [0, 3, 1, 4, 5] rfl)
          ·
            refine lv_isub hx hb dX1_look_64 ?_
            refine lv_istore (lv' := [(5, .int (nI (en + 1) - nI 10)), (3, .int (nI ((2 * lv + b_1) % 1024))), (4, .int (nI en)), (2, .int (nI go)), (0, .ref h0), (1, .ref rw)]) hx hb dX1_look_65 hl (by decide) rfl (fun ls hl => ?_)
            refine lv_iload hx hb dX1_look_67 (lv_at hl 0 rfl) ?_
            refine lv_iload_n hx hb dX1_look_69 rfl (lv_at hl 3 rfl) ?_
            refine lv_icmp_lt (tgt := 88) hx hb dX1_look_70 (by decide) (fun _ => ?_) (fun c70 => absurd (neg_lt (by omega) (by omega)) c70)
            refine lv_iinc (v := nI (en + 1)) (lv' := [(4, .int (nI (en + 1))), (5, .int (nI (en + 1) - nI 10)), (3, .int (nI ((2 * lv + b_1) % 1024))), (2, .int (nI go)), (0, .ref h0), (1, .ref rw)]) hx hb dX1_look_88 hl (k := 2) rfl (nI_add en 1) (by decide) rfl (fun ls hl => ?_)
            refine lv_goto (tgt := 27) hx hb dX1_look_91 (by decide) ?_
            exact ih_27 (en + 1) ((2 * lv + b_1) % 1024) go ns9 ng9 nst9 cu9 g (by omega) (by first | assumption | omega | rfl) (lc_b hlv (e_2 (by omega)) hb_1) (by first | assumption | omega | rfl) (by first | assumption | omega | rfl) (by first | assumption | omega | rfl) (by first | assumption | omega | rfl) (by first | assumption | omega | rfl) _ _ _ (hP.sub [0, 1, 2, 3, 4] rfl) (hD.sub [0, 1, 2, 3, 4] (by decide) rfl) hS (lv_sub hl [0, 2, 3, 4, 5] rfl)
  exact lp_27 (ln + 1) 0 0 0 0 0 0 0 v (by omega) (by first | assumption | omega | rfl) rfl (by first | assumption | omega | rfl) (sAll.zero _ _ _ _) rfl (by first | assumption | omega | rfl) (by first | assumption | omega | rfl) _ _ _ (hP.sub [0, 1, 2, 3, 4] rfl) (hD.sub [0, 1, 2, 3, 4] (by decide) rfl) hS (lv_sub hl [0, 1, 2, 3, 4] rfl)
