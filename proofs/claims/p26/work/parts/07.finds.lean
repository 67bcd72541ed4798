def wq_X1_init : List Cond := .code yX1_init cX1_init 2 none :: (([.methodLink RX1 3 objectInit, .instanceMethod objectInit, .code objectInit ⟨#[0xb1]⟩ 1 none, .arrayClass .int, .fieldLink RX1 11 "FluxBench$Finds" "values" "[I", .fieldLink RX1 15 "FluxBench$Finds" "plainSectors" "[I", .fieldLink RX1 18 "FluxBench$Finds" "sectors" "I", .fieldLink RX1 22 "FluxBench$Finds" "goodOnes" "I", .fieldLink RX1 25 "FluxBench$Finds" "strays" "I", .fieldLink RX1 28 "FluxBench$Finds" "isCut" "Z", .fieldLink RX1 32 "FluxBench$Finds" "plainCount" "I", .fieldLink RX1 35 "FluxBench$Finds" "plainCells" "I", .fieldLink RX1 38 "FluxBench$Finds" "code" "I"] : List Cond) ++ (u_ws RX1 TX1 9 ++ ([] : List Cond)))
theorem gd_X1_init : wq_X1_init.all goodWord = true := by decide +kernel
theorem n_X1_init_X1 : ∀ w ∈ u_ws RX1 TX1 9, w ∈ wq_X1_init := fun w h => List.mem_cons_of_mem _ (List.mem_append_right _ (List.mem_append_left _ h))
set_option maxHeartbeats 4000000 in
set_option maxRecDepth 100000 in
theorem c_X1_init (l : Launch) (D : va_G) (kA : Nat → ClassId) (z : Nat) (h0 cd : Nat)  : mV l D (tyL kA) z yX1_init wq_X1_init ({ frames := 1, cells := 2, slots := 80, locals := 12 }) [.ref h0, .int (nI cd)] [(h0, .inr (0, [.int 0, .null, .null, .int 0, .int 0, .int 0, .int 0, .int 0, .int 0]))] (fun w => ∃ (a1 a2 : Nat), w = [(h0, .inr (0, [.int (nI cd), .ref a1, .ref a2, .int (nI 0), .int (nI 0), .int (nI 0), .int (nI 0), .int (nI 0), .int (nI 0)])), (a1, .inl (kA 0, 72, .inl (fun _ => 0))), (a2, .inl (kA 0, 8, .inl (fun _ => 0)))]) := by
  refine ofV (cc := cX1_init) (maxL := 2) RX1 rfl (by decide +kernel) rfl (Nat.le_of_ble_eq_true rfl) ?_
  intro p e s m args below meth c A ls hnm hE
  obtain ⟨hx, hb, hr, hml, hts, hown, hlocks, hA, hS, hP, hK, hD, hG, hl⟩ := hE
  have hl : lv_has ls 2 [(0, .ref h0), (1, .int (nI cd))] := hl
  have hH : s.heap = s.heap := rfl
  refine lv_aload_n hx hb dX1_init_0 rfl (lv_at hl 0 rfl) ?_
  refine W.objInit hx hb hown (wAt hts 1 (w := .methodLink RX1 3 objectInit) rfl) (wAt hts 2 (w := .instanceMethod objectInit) rfl) (wAt hts 3 (w := .code objectInit ⟨#[0xb1]⟩ 1 none) rfl) rfl (by rw [hml]; exact hl.1) rfl dX1_init_1 (Nat.le_of_ble_eq_true rfl) (Nat.le_of_ble_eq_true rfl) ?_
  refine W.eq (g2 := F0 m 4 ls []) rfl ?_
  refine lv_aload_n hx hb dX1_init_4 rfl (lv_at hl 0 rfl) ?_
  refine lv_bipush (v := nI 72) hx hb dX1_init_5 (by decide) ?_
  refine va_newa (atype := .int) (ty := .int) (N' := 72) (a0 := (72, .inl (fun _ => 0))) hx hb (wAt hts 4 (w := .arrayClass .int) rfl) rfl hK hP hD hS hA (fun _ => rfl) (nI_pos (n := 72) (by decide)) (nI_clamp (n := 72) (by decide)) (by decide) (Nat.le_of_ble_eq_true rfl) (Nat.le_of_ble_eq_true rfl) dX1_init_7 (fun q_1 cA H hK hP hD hS => ?_)
  obtain rfl : cA = kA 0 := tyEq hK 3 0 rfl rfl
  have hK : va_K D vwCl (tyL kA) s := hK.sub [0, 1, 2] rfl
  have hP : va_P D vwCl [(h0, .inr (0, [.int 0, .null, .null, .int 0, .int 0, .int 0, .int 0, .int 0, .int 0])), (q_1, .inl (kA 0, 72, .inl (fun _ => 0)))] H := hP
  have hD : va_D A [(h0, .inr (0, [.int 0, .null, .null, .int 0, .int 0, .int 0, .int 0, .int 0, .int 0])), (q_1, .inl (kA 0, 72, .inl (fun _ => 0)))] := hD
  refine va_putF (D := D) (ci := 0) (v := .ref q_1) (ty := (tyX1 1)) (C := RX1) (T := TX1) (N := 9) hx hb hts n_X1_init_X1 tyX1 tyX1_ok nmX1 hown hK hP hD hS 0 rfl rfl 1 (by decide) (wAt hts 5 (w := .fieldLink RX1 11 "FluxBench$Finds" "values" "[I") rfl) (fun _ h9 => h9) rfl hnm rfl (by decide +kernel) rfl rfl (Nat.le_of_ble_eq_true rfl) dX1_init_9 (fun H locs hP hD hS => ?_)
  have hP : va_P D vwCl [(h0, .inr (0, [.int 0, .ref q_1, .null, .int 0, .int 0, .int 0, .int 0, .int 0, .int 0])), (q_1, .inl (kA 0, 72, .inl (fun _ => 0)))] H := hP
  have hD : va_D A [(h0, .inr (0, [.int 0, .ref q_1, .null, .int 0, .int 0, .int 0, .int 0, .int 0, .int 0])), (q_1, .inl (kA 0, 72, .inl (fun _ => 0)))] := hD
  refine lv_aload_n hx hb dX1_init_12 rfl (lv_at hl 0 rfl) ?_
  refine lv_bipush (v := nI 8) hx hb dX1_init_13 (by decide) ?_
  refine va_newa (atype := .int) (ty := .int) (N' := 8) (a0 := (8, .inl (fun _ => 0))) hx hb (wAt hts 4 (w := .arrayClass .int) rfl) rfl hK hP hD hS hA (fun _ => rfl) (nI_pos (n := 8) (by decide)) (nI_clamp (n := 8) (by decide)) (by decide) (Nat.le_of_ble_eq_true rfl) (Nat.le_of_ble_eq_true rfl) dX1_init_15 (fun q_2 cA H hK hP hD hS => ?_)
  obtain rfl : cA = kA 0 := tyEq hK 3 0 rfl rfl
  have hK : va_K D vwCl (tyL kA) s := hK.sub [0, 1, 2] rfl
  have hP : va_P D vwCl [(h0, .inr (0, [.int 0, .ref q_1, .null, .int 0, .int 0, .int 0, .int 0, .int 0, .int 0])), (q_1, .inl (kA 0, 72, .inl (fun _ => 0))), (q_2, .inl (kA 0, 8, .inl (fun _ => 0)))] H := hP
  have hD : va_D A [(h0, .inr (0, [.int 0, .ref q_1, .null, .int 0, .int 0, .int 0, .int 0, .int 0, .int 0])), (q_1, .inl (kA 0, 72, .inl (fun _ => 0))), (q_2, .inl (kA 0, 8, .inl (fun _ => 0)))] := hD
  refine va_putF (D := D) (ci := 0) (v := .ref q_2) (ty := (tyX1 2)) (C := RX1) (T := TX1) (N := 9) hx hb hts n_X1_init_X1 tyX1 tyX1_ok nmX1 hown hK hP hD hS 0 rfl rfl 2 (by decide) (wAt hts 6 (w := .fieldLink RX1 15 "FluxBench$Finds" "plainSectors" "[I") rfl) (fun _ h9 => h9) rfl hnm rfl (by decide +kernel) rfl rfl (Nat.le_of_ble_eq_true rfl) dX1_init_17 (fun H locs hP hD hS => ?_)
  have hP : va_P D vwCl [(h0, .inr (0, [.int 0, .ref q_1, .ref q_2, .int 0, .int 0, .int 0, .int 0, .int 0, .int 0])), (q_1, .inl (kA 0, 72, .inl (fun _ => 0))), (q_2, .inl (kA 0, 8, .inl (fun _ => 0)))] H := hP
  have hD : va_D A [(h0, .inr (0, [.int 0, .ref q_1, .ref q_2, .int 0, .int 0, .int 0, .int 0, .int 0, .int 0])), (q_1, .inl (kA 0, 72, .inl (fun _ => 0))), (q_2, .inl (kA 0, 8, .inl (fun _ => 0)))] := hD
  refine lv_aload_n hx hb dX1_init_20 rfl (lv_at hl 0 rfl) ?_
  refine lv_iconst (v := nI 0) hx hb dX1_init_21 (by decide) ?_
  refine va_put (D := D) (ci := 0) (v := .int (nI 0)) (ty := .int) (C := RX1) (T := TX1) (N := 9) hx hb hts n_X1_init_X1 tyX1 tyX1_ok nmX1 hown hK hP hD hS 0 rfl rfl 3 (by decide) (wAt hts 7 (w := .fieldLink RX1 18 "FluxBench$Finds" "sectors" "I") rfl) (fun _ h9 => h9) rfl (by decide +kernel) rfl rfl (Nat.le_of_ble_eq_true rfl) dX1_init_22 (fun H locs hP hD hS => ?_)
  have hP : va_P D vwCl [(h0, .inr (0, [.int 0, .ref q_1, .ref q_2, .int (nI 0), .int 0, .int 0, .int 0, .int 0, .int 0])), (q_1, .inl (kA 0, 72, .inl (fun _ => 0))), (q_2, .inl (kA 0, 8, .inl (fun _ => 0)))] H := hP
  have hD : va_D A [(h0, .inr (0, [.int 0, .ref q_1, .ref q_2, .int (nI 0), .int 0, .int 0, .int 0, .int 0, .int 0])), (q_1, .inl (kA 0, 72, .inl (fun _ => 0))), (q_2, .inl (kA 0, 8, .inl (fun _ => 0)))] := hD
  refine lv_aload_n hx hb dX1_init_25 rfl (lv_at hl 0 rfl) ?_
  refine lv_iconst (v := nI 0) hx hb dX1_init_26 (by decide) ?_
  refine va_put (D := D) (ci := 0) (v := .int (nI 0)) (ty := .int) (C := RX1) (T := TX1) (N := 9) hx hb hts n_X1_init_X1 tyX1 tyX1_ok nmX1 hown hK hP hD hS 0 rfl rfl 4 (by decide) (wAt hts 8 (w := .fieldLink RX1 22 "FluxBench$Finds" "goodOnes" "I") rfl) (fun _ h9 => h9) rfl (by decide +kernel) rfl rfl (Nat.le_of_ble_eq_true rfl) dX1_init_27 (fun H locs hP hD hS => ?_)
  have hP : va_P D vwCl [(h0, .inr (0, [.int 0, .ref q_1, .ref q_2, .int (nI 0), .int (nI 0), .int 0, .int 0, .int 0, .int 0])), (q_1, .inl (kA 0, 72, .inl (fun _ => 0))), (q_2, .inl (kA 0, 8, .inl (fun _ => 0)))] H := hP
  have hD : va_D A [(h0, .inr (0, [.int 0, .ref q_1, .ref q_2, .int (nI 0), .int (nI 0), .int 0, .int 0, .int 0, .int 0])), (q_1, .inl (kA 0, 72, .inl (fun _ => 0))), (q_2, .inl (kA 0, 8, .inl (fun _ => 0)))] := hD
  refine lv_aload_n hx hb dX1_init_30 rfl (lv_at hl 0 rfl) ?_
  refine lv_iconst (v := nI 0) hx hb dX1_init_31 (by decide) ?_
  refine va_put (D := D) (ci := 0) (v := .int (nI 0)) (ty := .int) (C := RX1) (T := TX1) (N := 9) hx hb hts n_X1_init_X1 tyX1 tyX1_ok nmX1 hown hK hP hD hS 0 rfl rfl 5 (by decide) (wAt hts 9 (w := .fieldLink RX1 25 "FluxBench$Finds" "strays" "I") rfl) (fun _ h9 => h9) rfl (by decide +kernel) rfl rfl (Nat.le_of_ble_eq_true rfl) dX1_init_32 (fun H locs hP hD hS => ?_)
  have hP : va_P D vwCl [(h0, .inr (0, [.int 0, .ref q_1, .ref q_2, .int (nI 0), .int (nI 0), .int (nI 0), .int 0, .int 0, .int 0])), (q_1, .inl (kA 0, 72, .inl (fun _ => 0))), (q_2, .inl (kA 0, 8, .inl (fun _ => 0)))] H := hP
  have hD : va_D A [(h0, .inr (0, [.int 0, .ref q_1, .ref q_2, .int (nI 0), .int (nI 0), .int (nI 0), .int 0, .int 0, .int 0])), (q_1, .inl (kA 0, 72, .inl (fun _ => 0))), (q_2, .inl (kA 0, 8, .inl (fun _ => 0)))] := hD
  refine lv_aload_n hx hb dX1_init_35 rfl (lv_at hl 0 rfl) ?_
  refine lv_iconst (v := nI 0) hx hb dX1_init_36 (by decide) ?_
  refine va_put (D := D) (ci := 0) (v := .int (nI 0)) (ty := .boolean) (C := RX1) (T := TX1) (N := 9) hx hb hts n_X1_init_X1 tyX1 tyX1_ok nmX1 hown hK hP hD hS 0 rfl rfl 6 (by decide) (wAt hts 10 (w := .fieldLink RX1 28 "FluxBench$Finds" "isCut" "Z") rfl) (fun _ h9 => h9) rfl (by decide +kernel) rfl rfl (Nat.le_of_ble_eq_true rfl) dX1_init_37 (fun H locs hP hD hS => ?_)
  have hP : va_P D vwCl [(h0, .inr (0, [.int 0, .ref q_1, .ref q_2, .int (nI 0), .int (nI 0), .int (nI 0), .int (nI 0), .int 0, .int 0])), (q_1, .inl (kA 0, 72, .inl (fun _ => 0))), (q_2, .inl (kA 0, 8, .inl (fun _ => 0)))] H := hP
  have hD : va_D A [(h0, .inr (0, [.int 0, .ref q_1, .ref q_2, .int (nI 0), .int (nI 0), .int (nI 0), .int (nI 0), .int 0, .int 0])), (q_1, .inl (kA 0, 72, .inl (fun _ => 0))), (q_2, .inl (kA 0, 8, .inl (fun _ => 0)))] := hD
  refine lv_aload_n hx hb dX1_init_40 rfl (lv_at hl 0 rfl) ?_
  refine lv_iconst (v := nI 0) hx hb dX1_init_41 (by decide) ?_
  refine va_put (D := D) (ci := 0) (v := .int (nI 0)) (ty := .int) (C := RX1) (T := TX1) (N := 9) hx hb hts n_X1_init_X1 tyX1 tyX1_ok nmX1 hown hK hP hD hS 0 rfl rfl 7 (by decide) (wAt hts 11 (w := .fieldLink RX1 32 "FluxBench$Finds" "plainCount" "I") rfl) (fun _ h9 => h9) rfl (by decide +kernel) rfl rfl (Nat.le_of_ble_eq_true rfl) dX1_init_42 (fun H locs hP hD hS => ?_)
  have hP : va_P D vwCl [(h0, .inr (0, [.int 0, .ref q_1, .ref q_2, .int (nI 0), .int (nI 0), .int (nI 0), .int (nI 0), .int (nI 0), .int 0])), (q_1, .inl (kA 0, 72, .inl (fun _ => 0))), (q_2, .inl (kA 0, 8, .inl (fun _ => 0)))] H := hP
  have hD : va_D A [(h0, .inr (0, [.int 0, .ref q_1, .ref q_2, .int (nI 0), .int (nI 0), .int (nI 0), .int (nI 0), .int (nI 0), .int 0])), (q_1, .inl (kA 0, 72, .inl (fun _ => 0))), (q_2, .inl (kA 0, 8, .inl (fun _ => 0)))] := hD
  refine lv_aload_n hx hb dX1_init_45 rfl (lv_at hl 0 rfl) ?_
  refine lv_iconst (v := nI 0) hx hb dX1_init_46 (by decide) ?_
  refine va_put (D := D) (ci := 0) (v := .int (nI 0)) (ty := .int) (C := RX1) (T := TX1) (N := 9) hx hb hts n_X1_init_X1 tyX1 tyX1_ok nmX1 hown hK hP hD hS 0 rfl rfl 8 (by decide) (wAt hts 12 (w := .fieldLink RX1 35 "FluxBench$Finds" "plainCells" "I") rfl) (fun _ h9 => h9) rfl (by decide +kernel) rfl rfl (Nat.le_of_ble_eq_true rfl) dX1_init_47 (fun H locs hP hD hS => ?_)
  have hP : va_P D vwCl [(h0, .inr (0, [.int 0, .ref q_1, .ref q_2, .int (nI 0), .int (nI 0), .int (nI 0), .int (nI 0), .int (nI 0), .int (nI 0)])), (q_1, .inl (kA 0, 72, .inl (fun _ => 0))), (q_2, .inl (kA 0, 8, .inl (fun _ => 0)))] H := hP
  have hD : va_D A [(h0, .inr (0, [.int 0, .ref q_1, .ref q_2, .int (nI 0), .int (nI 0), .int (nI 0), .int (nI 0), .int (nI 0), .int (nI 0)])), (q_1, .inl (kA 0, 72, .inl (fun _ => 0))), (q_2, .inl (kA 0, 8, .inl (fun _ => 0)))] := hD
  refine lv_aload_n hx hb dX1_init_50 rfl (lv_at hl 0 rfl) ?_
  refine lv_iload_n hx hb dX1_init_51 rfl (lv_at hl 1 rfl) ?_
  refine va_putF (D := D) (ci := 0) (v := .int (nI cd)) (ty := .int) (C := RX1) (T := TX1) (N := 9) hx hb hts n_X1_init_X1 tyX1 tyX1_ok nmX1 hown hK hP hD hS 0 rfl rfl 0 (by decide) (wAt hts 13 (w := .fieldLink RX1 38 "FluxBench$Finds" "code" "I") rfl) (fun _ h9 => h9) rfl hnm rfl (by decide +kernel) rfl rfl (Nat.le_of_ble_eq_true rfl) dX1_init_52 (fun H locs hP hD hS => ?_)
  have hP : va_P D vwCl [(h0, .inr (0, [.int (nI cd), .ref q_1, .ref q_2, .int (nI 0), .int (nI 0), .int (nI 0), .int (nI 0), .int (nI 0), .int (nI 0)])), (q_1, .inl (kA 0, 72, .inl (fun _ => 0))), (q_2, .inl (kA 0, 8, .inl (fun _ => 0)))] H := hP
  have hD : va_D A [(h0, .inr (0, [.int (nI cd), .ref q_1, .ref q_2, .int (nI 0), .int (nI 0), .int (nI 0), .int (nI 0), .int (nI 0), .int (nI 0)])), (q_1, .inl (kA 0, 72, .inl (fun _ => 0))), (q_2, .inl (kA 0, 8, .inl (fun _ => 0)))] := hD
  exact endV hx hb hr hlocks hK hP hD hS (⟨q_1, q_2, rfl⟩) (Nat.le_of_ble_eq_true rfl) (Nat.le_of_ble_eq_true rfl) dX1_init_55

def wq_X1_valueOf_in : List Cond := .code yX1_valueOf cX1_valueOf 4 (some .int) :: (([.fieldLink RX1 11 "FluxBench$Finds" "values" "[I"] : List Cond) ++ (u_ws RX1 TX1 9 ++ ([] : List Cond)))
theorem gd_X1_valueOf_in : wq_X1_valueOf_in.all goodWord = true := by decide +kernel
theorem n_X1_valueOf_in_X1 : ∀ w ∈ u_ws RX1 TX1 9, w ∈ wq_X1_valueOf_in := fun w h => List.mem_cons_of_mem _ (List.mem_append_right _ (List.mem_append_left _ h))
set_option maxHeartbeats 4000000 in
set_option maxRecDepth 100000 in
theorem c_X1_valueOf_in (l : Launch) (D : va_G) (kA : Nat → ClassId) (z : Nat) (h0 va pa cd ns ng nst cu pn pl : Nat) (s9 wh : Nat) (v : Nat → Int32) (hs9 : s9 ≤ 100) (hwh : wh ≤ 100) (hi : s9 * 9 + wh < 72) : mI l D (tyL kA) z yX1_valueOf wq_X1_valueOf_in ({ frames := 0, cells := 0, slots := 0, locals := 0 }) [.ref h0, .int (nI s9), .int (nI wh)] [(h0, .inr (0, [.int (nI cd), .ref va, .ref pa, .int (nI ns), .int (nI ng), .int (nI nst), .int (nI cu), .int (nI pn), .int (nI pl)])), (va, .inl (kA 0, 72, .inl v))] (fun r w => w = [(h0, .inr (0, [.int (nI cd), .ref va, .ref pa, .int (nI ns), .int (nI ng), .int (nI nst), .int (nI cu), .int (nI pn), .int (nI pl)])), (va, .inl (kA 0, 72, .inl v))] ∧ (r = v (s9 * 9 + wh))) := by
  refine ofI (cc := cX1_valueOf) (maxL := 4) RX1 rfl (by decide +kernel) rfl (Nat.le_of_ble_eq_true rfl) ?_
  intro p e s m args below meth c A ls hE
  obtain ⟨hx, hb, hr, hml, hts, hown, hlocks, hA, hS, hP, hK, hD, hG, hl⟩ := hE
  have hl : lv_has ls 4 [(0, .ref h0), (1, .int (nI s9)), (2, .int (nI wh))] := hl
  have hH : s.heap = s.heap := rfl
  refine lv_iload_n hx hb dX1_valueOf_0 rfl (lv_at hl 1 rfl) ?_
  refine lv_bipush (v := nI 9) hx hb dX1_valueOf_1 (by decide) ?_
  refine lv_imul hx hb dX1_valueOf_3 ?_
  rw [pk_mul s9 9]
  refine lv_iload_n hx hb dX1_valueOf_4 rfl (lv_at hl 2 rfl) ?_
  refine lv_iadd hx hb dX1_valueOf_5 ?_
  rw [nI_add (s9 * 9) wh]
  refine lv_istore_n (lv' := [(3, .int (nI (s9 * 9 + wh))), (0, .ref h0), (1, .int (nI s9)), (2, .int (nI wh))]) hx hb dX1_valueOf_6 rfl hl (by decide) rfl (fun ls hl => ?_)
  refine lv_iload_n hx hb dX1_valueOf_7 rfl (lv_at hl 0 rfl) ?_
  refine lv_if_lt (tgt := 29) hx hb dX1_valueOf_8 (by decide) (fun c8 => absurd c8 (nI_pos (n := (s9 * 9 + wh)) (by omega))) (fun _ => ?_)
  refine lv_iload_n hx hb dX1_valueOf_11 rfl (lv_at hl 0 rfl) ?_
  refine lv_aload_n hx hb dX1_valueOf_12 rfl (lv_at hl 1 rfl) ?_
  refine va_get (D := D) (ci := 0) (v := .ref va) (C := RX1) (T := TX1) (N := 9) hx hb hts n_X1_valueOf_in_X1 hown hK hP 0 rfl rfl 1 (by decide) (wAt hts 1 (w := .fieldLink RX1 11 "FluxBench$Finds" "values" "[I") rfl) (fun _ h9 => h9) rfl dX1_valueOf_13 ?_
  refine va_alen (v := nI 72) hx hb hK hP 1 0 rfl rfl rfl dX1_valueOf_16 ?_
  refine lv_icmp_ge (tgt := 29) hx hb dX1_valueOf_17 (by decide) (fun c17 => False.elim (by rw [qle (a := 72) (b := (s9 * 9 + wh)) (by omega) (by omega)] at c17; omega)) (fun _ => ?_)
  refine lv_aload_n hx hb dX1_valueOf_20 rfl (lv_at hl 1 rfl) ?_
  refine va_get (D := D) (ci := 0) (v := .ref va) (C := RX1) (T := TX1) (N := 9) hx hb hts n_X1_valueOf_in_X1 hown hK hP 0 rfl rfl 1 (by decide) (wAt hts 1 (w := .fieldLink RX1 11 "FluxBench$Finds" "values" "[I") rfl) (fun _ h9 => h9) rfl dX1_valueOf_21 ?_
  refine lv_iload_n hx hb dX1_valueOf_24 rfl (lv_at hl 0 rfl) ?_
  refine va_iald hx hb hK hP 1 0 rfl rfl (vp_in_nI (n := (s9 * 9 + wh)) (by omega) (by decide)) dX1_valueOf_25 ?_
  rw [nI_clamp (n := (s9 * 9 + wh)) (by omega)]
  refine lv_goto (tgt := 30) hx hb dX1_valueOf_26 (by decide) ?_
  exact endI hx hb hr hlocks hK hP hD hS (⟨rfl, by first | rfl | assumption | omega | (rw [if_pos (by omega)]; first | done | rfl) | (rw [if_neg (by omega)]; first | done | rfl)⟩) (Nat.le_of_ble_eq_true rfl) (Nat.le_of_ble_eq_true rfl) dX1_valueOf_30

def wq_X1_setValue_in : List Cond := .code yX1_setValue cX1_setValue 5 none :: (([.fieldLink RX1 11 "FluxBench$Finds" "values" "[I"] : List Cond) ++ (u_ws RX1 TX1 9 ++ ([] : List Cond)))
theorem gd_X1_setValue_in : wq_X1_setValue_in.all goodWord = true := by decide +kernel
theorem n_X1_setValue_in_X1 : ∀ w ∈ u_ws RX1 TX1 9, w ∈ wq_X1_setValue_in := fun w h => List.mem_cons_of_mem _ (List.mem_append_right _ (List.mem_append_left _ h))
set_option maxHeartbeats 4000000 in
set_option maxRecDepth 100000 in
theorem c_X1_setValue_in (l : Launch) (D : va_G) (kA : Nat → ClassId) (z : Nat) (h0 va pa cd ns ng nst cu pn pl : Nat) (s9 wh : Nat) (v : Nat → Int32) (x : Int32) (hs9 : s9 ≤ 100) (hwh : wh ≤ 100) (hi : s9 * 9 + wh < 72) : mV l D (tyL kA) z yX1_setValue wq_X1_setValue_in ({ frames := 0, cells := 0, slots := 0, locals := 0 }) [.ref h0, .int (nI s9), .int (nI wh), .int x] [(h0, .inr (0, [.int (nI cd), .ref va, .ref pa, .int (nI ns), .int (nI ng), .int (nI nst), .int (nI cu), .int (nI pn), .int (nI pl)])), (va, .inl (kA 0, 72, .inl v))] (fun w => w = [(h0, .inr (0, [.int (nI cd), .ref va, .ref pa, .int (nI ns), .int (nI ng), .int (nI nst), .int (nI cu), .int (nI pn), .int (nI pl)])), (va, .inl (kA 0, 72, .inl (upd v (s9 * 9 + wh) x)))]) := by
  refine ofV (cc := cX1_setValue) (maxL := 5) RX1 rfl (by decide +kernel) rfl (Nat.le_of_ble_eq_true rfl) ?_
  intro p e s m args below meth c A ls hnm hE
  obtain ⟨hx, hb, hr, hml, hts, hown, hlocks, hA, hS, hP, hK, hD, hG, hl⟩ := hE
  have hl : lv_has ls 5 [(0, .ref h0), (1, .int (nI s9)), (2, .int (nI wh)), (3, .int x)] := hl
  have hH : s.heap = s.heap := rfl
  refine lv_iload_n hx hb dX1_setValue_0 rfl (lv_at hl 1 rfl) ?_
  refine lv_bipush (v := nI 9) hx hb dX1_setValue_1 (by decide) ?_
  refine lv_imul hx hb dX1_setValue_3 ?_
  rw [pk_mul s9 9]
  refine lv_iload_n hx hb dX1_setValue_4 rfl (lv_at hl 2 rfl) ?_
  refine lv_iadd hx hb dX1_setValue_5 ?_
  rw [nI_add (s9 * 9) wh]
  refine lv_istore (lv' := [(4, .int (nI (s9 * 9 + wh))), (0, .ref h0), (1, .int (nI s9)), (2, .int (nI wh)), (3, .int x)]) hx hb dX1_setValue_6 hl (by decide) rfl (fun ls hl => ?_)
  refine lv_iload hx hb dX1_setValue_8 (lv_at hl 0 rfl) ?_
  refine lv_if_lt (tgt := 31) hx hb dX1_setValue_10 (by decide) (fun c10 => absurd c10 (nI_pos (n := (s9 * 9 + wh)) (by omega))) (fun _ => ?_)
  refine lv_iload hx hb dX1_setValue_13 (lv_at hl 0 rfl) ?_
  refine lv_aload_n hx hb dX1_setValue_15 rfl (lv_at hl 1 rfl) ?_
  refine va_get (D := D) (ci := 0) (v := .ref va) (C := RX1) (T := TX1) (N := 9) hx hb hts n_X1_setValue_in_X1 hown hK hP 0 rfl rfl 1 (by decide) (wAt hts 1 (w := .fieldLink RX1 11 "FluxBench$Finds" "values" "[I") rfl) (fun _ h9 => h9) rfl dX1_setValue_16 ?_
  refine va_alen (v := nI 72) hx hb hK hP 1 0 rfl rfl rfl dX1_setValue_19 ?_
  refine lv_icmp_ge (tgt := 31) hx hb dX1_setValue_20 (by decide) (fun c20 => False.elim (by rw [qle (a := 72) (b := (s9 * 9 + wh)) (by omega) (by omega)] at c20; omega)) (fun _ => ?_)
  refine lv_aload_n hx hb dX1_setValue_23 rfl (lv_at hl 1 rfl) ?_
  refine va_get (D := D) (ci := 0) (v := .ref va) (C := RX1) (T := TX1) (N := 9) hx hb hts n_X1_setValue_in_X1 hown hK hP 0 rfl rfl 1 (by decide) (wAt hts 1 (w := .fieldLink RX1 11 "FluxBench$Finds" "values" "[I") rfl) (fun _ h9 => h9) rfl dX1_setValue_24 ?_
  refine lv_iload hx hb dX1_setValue_27 (lv_at hl 0 rfl) ?_
  refine lv_iload_n hx hb dX1_setValue_29 rfl (lv_at hl 4 rfl) ?_
  refine va_iast hx hb hK hP hD hS 1 0 rfl rfl (vp_in_nI (n := (s9 * 9 + wh)) (by omega) (by decide)) dX1_setValue_30 (fun H locs hP hD hS => ?_)
  rw [nI_clamp (n := (s9 * 9 + wh)) (by omega)] at hP hD
  have hP : va_P D vwCl [(h0, .inr (0, [.int (nI cd), .ref va, .ref pa, .int (nI ns), .int (nI ng), .int (nI nst), .int (nI cu), .int (nI pn), .int (nI pl)])), (va, .inl (kA 0, 72, .inl (upd v (s9 * 9 + wh) x)))] H := hP
  have hD : va_D A [(h0, .inr (0, [.int (nI cd), .ref va, .ref pa, .int (nI ns), .int (nI ng), .int (nI nst), .int (nI cu), .int (nI pn), .int (nI pl)])), (va, .inl (kA 0, 72, .inl (upd v (s9 * 9 + wh) x)))] := hD
  exact endV hx hb hr hlocks hK hP hD hS (rfl) (Nat.le_of_ble_eq_true rfl) (Nat.le_of_ble_eq_true rfl) dX1_setValue_31

def wq_X1_plainSector_in : List Cond := .code yX1_plainSector cX1_plainSector 2 (some .int) :: (([.fieldLink RX1 32 "FluxBench$Finds" "plainCount" "I", .fieldLink RX1 15 "FluxBench$Finds" "plainSectors" "[I"] : List Cond) ++ (u_ws RX1 TX1 9 ++ ([] : List Cond)))
theorem gd_X1_plainSector_in : wq_X1_plainSector_in.all goodWord = true := by decide +kernel
theorem n_X1_plainSector_in_X1 : ∀ w ∈ u_ws RX1 TX1 9, w ∈ wq_X1_plainSector_in := fun w h => List.mem_cons_of_mem _ (List.mem_append_right _ (List.mem_append_left _ h))
set_option maxHeartbeats 4000000 in
set_option maxRecDepth 100000 in
theorem c_X1_plainSector_in (l : Launch) (D : va_G) (kA : Nat → ClassId) (z : Nat) (h0 va pa cd ns ng nst cu pn pl : Nat) (od : Nat) (ps : Nat → Int32) (h1 : od < pn) (h2 : pn ≤ 8) : mI l D (tyL kA) z yX1_plainSector wq_X1_plainSector_in ({ frames := 0, cells := 0, slots := 0, locals := 0 }) [.ref h0, .int (nI od)] [(h0, .inr (0, [.int (nI cd), .ref va, .ref pa, .int (nI ns), .int (nI ng), .int (nI nst), .int (nI cu), .int (nI pn), .int (nI pl)])), (pa, .inl (kA 0, 8, .inl ps))] (fun r w => w = [(h0, .inr (0, [.int (nI cd), .ref va, .ref pa, .int (nI ns), .int (nI ng), .int (nI nst), .int (nI cu), .int (nI pn), .int (nI pl)])), (pa, .inl (kA 0, 8, .inl ps))] ∧ (r = ps od)) := by
  refine ofI (cc := cX1_plainSector) (maxL := 2) RX1 rfl (by decide +kernel) rfl (Nat.le_of_ble_eq_true rfl) ?_
  intro p e s m args below meth c A ls hE
  obtain ⟨hx, hb, hr, hml, hts, hown, hlocks, hA, hS, hP, hK, hD, hG, hl⟩ := hE
  have hl : lv_has ls 2 [(0, .ref h0), (1, .int (nI od))] := hl
  have hH : s.heap = s.heap := rfl
  refine lv_iload_n hx hb dX1_plainSector_0 rfl (lv_at hl 1 rfl) ?_
  refine lv_if_lt (tgt := 30) hx hb dX1_plainSector_1 (by decide) (fun c1 => absurd c1 (nI_pos (n := od) (by omega))) (fun _ => ?_)
  refine lv_iload_n hx hb dX1_plainSector_4 rfl (lv_at hl 1 rfl) ?_
  refine lv_aload_n hx hb dX1_plainSector_5 rfl (lv_at hl 0 rfl) ?_
  refine va_get (D := D) (ci := 0) (v := .int (nI pn)) (C := RX1) (T := TX1) (N := 9) hx hb hts n_X1_plainSector_in_X1 hown hK hP 0 rfl rfl 7 (by decide) (wAt hts 1 (w := .fieldLink RX1 32 "FluxBench$Finds" "plainCount" "I") rfl) (fun _ h9 => h9) rfl dX1_plainSector_6 ?_
  refine lv_icmp_ge (tgt := 30) hx hb dX1_plainSector_9 (by decide) (fun c9 => False.elim (by rw [qle (a := pn) (b := od) (by omega) (by omega)] at c9; omega)) (fun _ => ?_)
  refine lv_iload_n hx hb dX1_plainSector_12 rfl (lv_at hl 1 rfl) ?_
  refine lv_aload_n hx hb dX1_plainSector_13 rfl (lv_at hl 0 rfl) ?_
  refine va_get (D := D) (ci := 0) (v := .ref pa) (C := RX1) (T := TX1) (N := 9) hx hb hts n_X1_plainSector_in_X1 hown hK hP 0 rfl rfl 2 (by decide) (wAt hts 2 (w := .fieldLink RX1 15 "FluxBench$Finds" "plainSectors" "[I") rfl) (fun _ h9 => h9) rfl dX1_plainSector_14 ?_
  refine va_alen (v := nI 8) hx hb hK hP 1 0 rfl rfl rfl dX1_plainSector_17 ?_
  refine lv_icmp_ge (tgt := 30) hx hb dX1_plainSector_18 (by decide) (fun c18 => False.elim (by rw [qle (a := 8) (b := od) (by omega) (by omega)] at c18; omega)) (fun _ => ?_)
  refine lv_aload_n hx hb dX1_plainSector_21 rfl (lv_at hl 0 rfl) ?_
  refine va_get (D := D) (ci := 0) (v := .ref pa) (C := RX1) (T := TX1) (N := 9) hx hb hts n_X1_plainSector_in_X1 hown hK hP 0 rfl rfl 2 (by decide) (wAt hts 2 (w := .fieldLink RX1 15 "FluxBench$Finds" "plainSectors" "[I") rfl) (fun _ h9 => h9) rfl dX1_plainSector_22 ?_
  refine lv_iload_n hx hb dX1_plainSector_25 rfl (lv_at hl 1 rfl) ?_
  refine va_iald hx hb hK hP 1 0 rfl rfl (vp_in_nI (n := od) (by omega) (by decide)) dX1_plainSector_26 ?_
  rw [nI_clamp (n := od) (by omega)]
  refine lv_goto (tgt := 31) hx hb dX1_plainSector_27 (by decide) ?_
  exact endI hx hb hr hlocks hK hP hD hS (⟨rfl, by first | rfl | assumption | omega | (rw [if_pos (by omega)]; first | done | rfl) | (rw [if_neg (by omega)]; first | done | rfl)⟩) (Nat.le_of_ble_eq_true rfl) (Nat.le_of_ble_eq_true rfl) dX1_plainSector_31

def wq_X1_firstGood : List Cond := .code yX1_firstGood cX1_firstGood 3 (some .int) :: (([.fieldLink RX1 18 "FluxBench$Finds" "sectors" "I", .methodLink RX1 78 yX1_valueOf, .instanceMethod yX1_valueOf, .selects RX1 yX1_valueOf yX1_valueOf, .initialized RX1] : List Cond) ++ (u_ws RX1 TX1 9 ++ (wq_X1_valueOf_in ++ ([] : List Cond))))
theorem gd_X1_firstGood : wq_X1_firstGood.all goodWord = true := by decide +kernel
theorem n_X1_firstGood_X1 : ∀ w ∈ u_ws RX1 TX1 9, w ∈ wq_X1_firstGood := fun w h => List.mem_cons_of_mem _ (List.mem_append_right _ (List.mem_append_left _ h))
theorem h_X1_firstGood_0 : GoodIn wq_X1_firstGood (wsV RX1 78 RX1 yX1_valueOf wq_X1_valueOf_in) := goodIn_app (goodIn_r _ [2, 3, 4, 5] (by decide +kernel) (by decide +kernel)) (goodIn_sub (fun w h => List.mem_cons_of_mem _ (List.mem_append_right _ (List.mem_append_right _ (List.mem_append_left _ h)))) gd_X1_valueOf_in)
set_option maxHeartbeats 4000000 in
set_option maxRecDepth 100000 in
theorem c_X1_firstGood (l : Launch) (D : va_G) (kA : Nat → ClassId) (z : Nat) (h0 va pa cd ns ng nst cu pn pl : Nat) (v : Nat → Int32) (nu : Int32) (hns : ns ≤ 8) : mI l D (tyL kA) z yX1_firstGood wq_X1_firstGood ({ frames := 1, cells := 0, slots := 0, locals := 23 }) [.ref h0, .int nu] [(h0, .inr (0, [.int (nI cd), .ref va, .ref pa, .int (nI ns), .int (nI ng), .int (nI nst), .int (nI cu), .int (nI pn), .int (nI pl)])), (va, .inl (kA 0, 72, .inl v))] (fun r w => w = [(h0, .inr (0, [.int (nI cd), .ref va, .ref pa, .int (nI ns), .int (nI ng), .int (nI nst), .int (nI cu), .int (nI pn), .int (nI pl)])), (va, .inl (kA 0, 72, .inl v))] ∧ (fG v ns nu r)) := by
  refine ofI (cc := cX1_firstGood) (maxL := 3) RX1 rfl (by decide +kernel) rfl (Nat.le_of_ble_eq_true rfl) ?_
  intro p e s m args below meth c A ls hE
  obtain ⟨hx, hb, hr, hml, hts, hown, hlocks, hA, hS, hP, hK, hD, hG, hl⟩ := hE
  have hl : lv_has ls 3 [(0, .ref h0), (1, .int nu)] := hl
  have hH : s.heap = s.heap := rfl
  refine lv_iconst (v := nI 0) hx hb dX1_firstGood_0 (by decide) ?_
  refine lv_istore_n (lv' := [(2, .int (nI 0)), (0, .ref h0), (1, .int nu)]) hx hb dX1_firstGood_1 rfl hl (by decide) rfl (fun ls hl => ?_)
  have lp_2 : ∀ (n_2 : Nat) (i : Nat), ns - i < n_2 → (i ≤ ns) → (∀ j, j < i → ¬ isG v nu j) → ∀ (H : Heap) (locs : List Loc) (ls : Array Slot), va_P D vwCl [(h0, .inr (0, [.int (nI cd), .ref va, .ref pa, .int (nI ns), .int (nI ng), .int (nI nst), .int (nI cu), .int (nI pn), .int (nI pl)])), (va, .inl (kA 0, 72, .inl v))] H → va_D A [(h0, .inr (0, [.int (nI cd), .ref va, .ref pa, .int (nI ns), .int (nI ng), .int (nI nst), .int (nI cu), .int (nI pn), .int (nI pl)])), (va, .inl (kA 0, 72, .inl v))] → va_S A s.heap H locs → lv_has ls 3 [(2, .int (nI i)), (0, .ref h0), (1, .int nu)] → W p l e ({ frames := 1, cells := 0, slots := 0, locals := 23 }) s m args below meth c H locs 0 0 (MQ below (va_Qi (fun r w => w = [(h0, .inr (0, [.int (nI cd), .ref va, .ref pa, .int (nI ns), .int (nI ng), .int (nI nst), .int (nI cu), .int (nI pn), .int (nI pl)])), (va, .inl (kA 0, 72, .inl v))] ∧ (fG v ns nu r)) (fB D (tyL kA) A) A) args s 0 0 A) (F0 m 2 ls []) := by
    clear hP hD hS hl
    intro n_2
    induction n_2 with
    | zero =>
      intro i hm_2 hi1 hn9
      exact absurd hm_2 (by omega)
    | succ n_2 ih_2 =>
      intro i hm_2 hi1 hn9 H locs ls hP hD hS hl
      refine lv_iload_n hx hb dX1_firstGood_2 rfl (lv_at hl 0 rfl) ?_
      refine lv_aload_n hx hb dX1_firstGood_3 rfl (lv_at hl 1 rfl) ?_
      refine va_get (D := D) (ci := 0) (v := .int (nI ns)) (C := RX1) (T := TX1) (N := 9) hx hb hts n_X1_firstGood_X1 hown hK hP 0 rfl rfl 3 (by decide) (wAt hts 1 (w := .fieldLink RX1 18 "FluxBench$Finds" "sectors" "I") rfl) (fun _ h9 => h9) rfl dX1_firstGood_4 ?_
      refine lv_icmp_ge (tgt := 38) hx hb dX1_firstGood_7 (by decide) (fun c7 => ?_) (fun c7 => ?_)
      ·
        rw [qle (a := ns) (b := i) (by omega) (by omega)] at c7
        refine lv_iconst (v := -1) hx hb dX1_firstGood_38 (by decide) ?_
        exact endI hx hb hr hlocks hK hP hD hS (⟨rfl, Or.inl ⟨rfl, fun j hj => hn9 j (by omega)⟩⟩) (Nat.le_of_ble_eq_true rfl) (Nat.le_of_ble_eq_true rfl) dX1_firstGood_39
      ·
        rw [qle (a := ns) (b := i) (by omega) (by omega)] at c7
        refine lv_aload_n hx hb dX1_firstGood_10 rfl (lv_at hl 1 rfl) ?_
        refine lv_iload_n hx hb dX1_firstGood_11 rfl (lv_at hl 0 rfl) ?_
        refine lv_iconst (v := nI 3) hx hb dX1_firstGood_12 (by decide) ?_
        have hF := va_free (wc := [(h0, .inr (0, [.int (nI cd), .ref va, .ref pa, .int (nI ns), .int (nI ng), .int (nI nst), .int (nI cu), .int (nI pn), .int (nI pl)])), (va, .inl (kA 0, 72, .inl v))]) hD hS hA [0, 1] rfl
        refine va_calli (va_runV (As := [.int (nI i), .int (nI 3)]) (rest := []) ⟨hx, hb, hml, hown, hts⟩ (c_X1_valueOf_in l D kA z h0 va pa cd ns ng nst cu pn pl i 3 v (by first | assumption | omega) (by first | assumption | omega) (by first | assumption | omega) _) (cwV 2 hts h_X1_firstGood_0 rfl rfl rfl (by decide +kernel) ⟨Nat.le_of_ble_eq_true rfl, Nat.le_of_ble_eq_true rfl⟩) (fPv hK hP hD hS hG hF [0, 1] (by decide) rfl 0 0 rfl rfl rfl) rfl rfl hl.1 rfl (lv_room (Nat.le_of_ble_eq_true rfl)) dX1_firstGood_13 ⟨Nat.le_of_ble_eq_true rfl, Nat.le_of_ble_eq_true rfl⟩) hS (fun q _ h => hF q h) hF (fun r_1 w1 t H locs ht hvm hw hB hz1 hk1 hS => ?_)
        obtain ⟨hP, hD⟩ := fJ (wr := []) hP hD [0, 1] [] rfl rfl (by decide) (by decide) hk1 hF ht hB
        try dsimp only at hw
        obtain ⟨rfl, e_1⟩ := hw
        have hP : va_P D vwCl [(h0, .inr (0, [.int (nI cd), .ref va, .ref pa, .int (nI ns), .int (nI ng), .int (nI nst), .int (nI cu), .int (nI pn), .int (nI pl)])), (va, .inl (kA 0, 72, .inl v))] H := hP
        have hD : va_D A [(h0, .inr (0, [.int (nI cd), .ref va, .ref pa, .int (nI ns), .int (nI ng), .int (nI nst), .int (nI cu), .int (nI pn), .int (nI pl)])), (va, .inl (kA 0, 72, .inl v))] := hD
        refine lv_iconst (v := nI 1) hx hb dX1_firstGood_16 (by decide) ?_
        refine lv_icmp_ne (tgt := 32) hx hb dX1_firstGood_17 (by decide) (fun c17 => ?_) (fun c17 => ?_)
        ·
          refine lv_iinc (v := nI (i + 1)) (lv' := [(2, .int (nI (i + 1))), (0, .ref h0), (1, .int nu)]) hx hb dX1_firstGood_32 hl (k := 0) rfl (nI_add i 1) (by decide) rfl (fun ls hl => ?_)
          refine lv_goto (tgt := 2) hx hb dX1_firstGood_35 (by decide) ?_
          have hnb : ¬ isG v nu i := fun q9 => by first | exact c17 (by rw [e_1]; exact q9.1) | exact c27 (by rw [e_2]; exact q9.2)
          exact ih_2 (i + 1) (by omega) (by first | assumption | omega | rfl) (all_s hn9 hnb) _ _ _ (hP.sub [0, 1] rfl) (hD.sub [0, 1] (by decide) rfl) hS (lv_sub hl [0, 1, 2] rfl)
        ·
          refine lv_aload_n hx hb dX1_firstGood_20 rfl (lv_at hl 1 rfl) ?_
          refine lv_iload_n hx hb dX1_firstGood_21 rfl (lv_at hl 0 rfl) ?_
          refine lv_iconst (v := nI 1) hx hb dX1_firstGood_22 (by decide) ?_
          have hF := va_free (wc := [(h0, .inr (0, [.int (nI cd), .ref va, .ref pa, .int (nI ns), .int (nI ng), .int (nI nst), .int (nI cu), .int (nI pn), .int (nI pl)])), (va, .inl (kA 0, 72, .inl v))]) hD hS hA [0, 1] rfl
          refine va_calli (va_runV (As := [.int (nI i), .int (nI 1)]) (rest := []) ⟨hx, hb, hml, hown, hts⟩ (c_X1_valueOf_in l D kA z h0 va pa cd ns ng nst cu pn pl i 1 v (by first | assumption | omega) (by first | assumption | omega) (by first | assumption | omega) _) (cwV 2 hts h_X1_firstGood_0 rfl rfl rfl (by decide +kernel) ⟨Nat.le_of_ble_eq_true rfl, Nat.le_of_ble_eq_true rfl⟩) (fPv hK hP hD hS hG hF [0, 1] (by decide) rfl 0 0 rfl rfl rfl) rfl rfl hl.1 rfl (lv_room (Nat.le_of_ble_eq_true rfl)) dX1_firstGood_23 ⟨Nat.le_of_ble_eq_true rfl, Nat.le_of_ble_eq_true rfl⟩) hS (fun q _ h => hF q h) hF (fun r_2 w1 t H locs ht hvm hw hB hz1 hk1 hS => ?_)
          obtain ⟨hP, hD⟩ := fJ (wr := []) hP hD [0, 1] [] rfl rfl (by decide) (by decide) hk1 hF ht hB
          try dsimp only at hw
          obtain ⟨rfl, e_2⟩ := hw
          have hP : va_P D vwCl [(h0, .inr (0, [.int (nI cd), .ref va, .ref pa, .int (nI ns), .int (nI ng), .int (nI nst), .int (nI cu), .int (nI pn), .int (nI pl)])), (va, .inl (kA 0, 72, .inl v))] H := hP
          have hD : va_D A [(h0, .inr (0, [.int (nI cd), .ref va, .ref pa, .int (nI ns), .int (nI ng), .int (nI nst), .int (nI cu), .int (nI pn), .int (nI pl)])), (va, .inl (kA 0, 72, .inl v))] := hD
          refine lv_iload_n hx hb dX1_firstGood_26 rfl (lv_at hl 2 rfl) ?_
          refine lv_icmp_ne (tgt := 32) hx hb dX1_firstGood_27 (by decide) (fun c27 => ?_) (fun c27 => ?_)
          ·
            refine lv_iinc (v := nI (i + 1)) (lv' := [(2, .int (nI (i + 1))), (0, .ref h0), (1, .int nu)]) hx hb dX1_firstGood_32 hl (k := 0) rfl (nI_add i 1) (by decide) rfl (fun ls hl => ?_)
            refine lv_goto (tgt := 2) hx hb dX1_firstGood_35 (by decide) ?_
            have hnb : ¬ isG v nu i := fun q9 => by first | exact c17 (by rw [e_1]; exact q9.1) | exact c27 (by rw [e_2]; exact q9.2)
            exact ih_2 (i + 1) (by omega) (by first | assumption | omega | rfl) (all_s hn9 hnb) _ _ _ (hP.sub [0, 1] rfl) (hD.sub [0, 1] (by decide) rfl) hS (lv_sub hl [0, 1, 2] rfl)
          ·
            refine lv_iload_n hx hb dX1_firstGood_30 rfl (lv_at hl 0 rfl) ?_
            exact endI hx hb hr hlocks hK hP hD hS (⟨rfl, Or.inr ⟨i, by omega, rfl, ⟨by rw [← e_1]; exact c17, by rw [← e_2]; exact c27⟩, hn9⟩⟩) (Nat.le_of_ble_eq_true rfl) (Nat.le_of_ble_eq_true rfl) dX1_firstGood_31
  exact lp_2 (ns + 1) 0 (by omega) (by first | assumption | omega | rfl) (fun j hj => absurd hj (by omega)) _ _ _ (hP.sub [0, 1] rfl) (hD.sub [0, 1] (by decide) rfl) hS (lv_sub hl [0, 1, 2] rfl)

def wq_X1_isFirstGood : List Cond := .code yX1_isFirstGood cX1_isFirstGood 2 (some .boolean) :: (([.methodLink RX1 78 yX1_valueOf, .instanceMethod yX1_valueOf, .selects RX1 yX1_valueOf yX1_valueOf, .initialized RX1, .methodLink RX1 85 yX1_firstGood, .instanceMethod yX1_firstGood, .selects RX1 yX1_firstGood yX1_firstGood] : List Cond) ++ (wq_X1_valueOf_in ++ (wq_X1_firstGood ++ ([] : List Cond))))
theorem gd_X1_isFirstGood : wq_X1_isFirstGood.all goodWord = true := by decide +kernel
theorem h_X1_isFirstGood_0 : GoodIn wq_X1_isFirstGood (wsV RX1 78 RX1 yX1_valueOf wq_X1_valueOf_in) := goodIn_app (goodIn_r _ [1, 2, 3, 4] (by decide +kernel) (by decide +kernel)) (goodIn_sub (fun w h => List.mem_cons_of_mem _ (List.mem_append_right _ (List.mem_append_left _ h))) gd_X1_valueOf_in)
theorem h_X1_isFirstGood_1 : GoodIn wq_X1_isFirstGood (wsV RX1 85 RX1 yX1_firstGood wq_X1_firstGood) := goodIn_app (goodIn_r _ [5, 6, 7, 4] (by decide +kernel) (by decide +kernel)) (goodIn_sub (fun w h => List.mem_cons_of_mem _ (List.mem_append_right _ (List.mem_append_right _ (List.mem_append_left _ h)))) gd_X1_firstGood)
set_option maxHeartbeats 4000000 in
set_option maxRecDepth 100000 in
theorem c_X1_isFirstGood (l : Launch) (D : va_G) (kA : Nat → ClassId) (z : Nat) (h0 va pa cd ns ng nst cu pn pl : Nat) (v : Nat → Int32) (s9 : Nat) (hns : ns ≤ 8) (hs9 : s9 < ns) : mI l D (tyL kA) z yX1_isFirstGood wq_X1_isFirstGood ({ frames := 2, cells := 0, slots := 0, locals := 45 }) [.ref h0, .int (nI s9)] [(h0, .inr (0, [.int (nI cd), .ref va, .ref pa, .int (nI ns), .int (nI ng), .int (nI nst), .int (nI cu), .int (nI pn), .int (nI pl)])), (va, .inl (kA 0, 72, .inl v))] (fun r w => ∃ (b : Nat), w = [(h0, .inr (0, [.int (nI cd), .ref va, .ref pa, .int (nI ns), .int (nI ng), .int (nI nst), .int (nI cu), .int (nI pn), .int (nI pl)])), (va, .inl (kA 0, 72, .inl v))] ∧ (b ≤ 1) ∧ (r = nI b) ∧ (b = 1 ↔ iFG v s9)) := by
  refine ofI (cc := cX1_isFirstGood) (maxL := 2) RX1 rfl (by decide +kernel) rfl (Nat.le_of_ble_eq_true rfl) ?_
  intro p e s m args below meth c A ls hE
  obtain ⟨hx, hb, hr, hml, hts, hown, hlocks, hA, hS, hP, hK, hD, hG, hl⟩ := hE
  have hl : lv_has ls 2 [(0, .ref h0), (1, .int (nI s9))] := hl
  have hH : s.heap = s.heap := rfl
  refine lv_aload_n hx hb dX1_isFirstGood_0 rfl (lv_at hl 0 rfl) ?_
  refine lv_aload_n hx hb dX1_isFirstGood_1 rfl (lv_at hl 0 rfl) ?_
  refine lv_iload_n hx hb dX1_isFirstGood_2 rfl (lv_at hl 1 rfl) ?_
  refine lv_iconst (v := nI 1) hx hb dX1_isFirstGood_3 (by decide) ?_
  have hF := va_free (wc := [(h0, .inr (0, [.int (nI cd), .ref va, .ref pa, .int (nI ns), .int (nI ng), .int (nI nst), .int (nI cu), .int (nI pn), .int (nI pl)])), (va, .inl (kA 0, 72, .inl v))]) hD hS hA [0, 1] rfl
  refine va_calli (va_runV (As := [.int (nI s9), .int (nI 1)]) (rest := [.ref h0]) ⟨hx, hb, hml, hown, hts⟩ (c_X1_valueOf_in l D kA z h0 va pa cd ns ng nst cu pn pl s9 1 v (by first | assumption | omega) (by first | assumption | omega) (by first | assumption | omega) _) (cwV 2 hts h_X1_isFirstGood_0 rfl rfl rfl (by decide +kernel) ⟨Nat.le_of_ble_eq_true rfl, Nat.le_of_ble_eq_true rfl⟩) (fPv hK hP hD hS hG hF [0, 1] (by decide) rfl 0 0 rfl rfl rfl) rfl rfl hl.1 rfl (lv_room (Nat.le_of_ble_eq_true rfl)) dX1_isFirstGood_4 ⟨Nat.le_of_ble_eq_true rfl, Nat.le_of_ble_eq_true rfl⟩) hS (fun q _ h => hF q h) hF (fun r_1 w1 t H locs ht hvm hw hB hz1 hk1 hS => ?_)
  obtain ⟨hP, hD⟩ := fJ (wr := []) hP hD [0, 1] [] rfl rfl (by decide) (by decide) hk1 hF ht hB
  try dsimp only at hw
  obtain ⟨rfl, e_1⟩ := hw
  have hP : va_P D vwCl [(h0, .inr (0, [.int (nI cd), .ref va, .ref pa, .int (nI ns), .int (nI ng), .int (nI nst), .int (nI cu), .int (nI pn), .int (nI pl)])), (va, .inl (kA 0, 72, .inl v))] H := hP
  have hD : va_D A [(h0, .inr (0, [.int (nI cd), .ref va, .ref pa, .int (nI ns), .int (nI ng), .int (nI nst), .int (nI cu), .int (nI pn), .int (nI pl)])), (va, .inl (kA 0, 72, .inl v))] := hD
  subst e_1
  have hF := va_free (wc := [(h0, .inr (0, [.int (nI cd), .ref va, .ref pa, .int (nI ns), .int (nI ng), .int (nI nst), .int (nI cu), .int (nI pn), .int (nI pl)])), (va, .inl (kA 0, 72, .inl v))]) hD hS hA [0, 1] rfl
  refine va_calli (va_runV (As := [.int (v (s9 * 9 + 1))]) (rest := []) ⟨hx, hb, hml, hown, hts⟩ (c_X1_firstGood l D kA z h0 va pa cd ns ng nst cu pn pl v (v (s9 * 9 + 1)) (by first | assumption | omega) _) (cwV 1 hts h_X1_isFirstGood_1 rfl rfl rfl (by decide +kernel) ⟨Nat.le_of_ble_eq_true rfl, Nat.le_of_ble_eq_true rfl⟩) (fPv hK hP hD hS hG hF [0, 1] (by decide) rfl 0 0 rfl rfl rfl) rfl rfl hl.1 rfl (lv_room (Nat.le_of_ble_eq_true rfl)) dX1_isFirstGood_7 ⟨Nat.le_of_ble_eq_true rfl, Nat.le_of_ble_eq_true rfl⟩) hS (fun q _ h => hF q h) hF (fun r_2 w1 t H locs ht hvm hw hB hz1 hk1 hS => ?_)
  obtain ⟨hP, hD⟩ := fJ (wr := []) hP hD [0, 1] [] rfl rfl (by decide) (by decide) hk1 hF ht hB
  try dsimp only at hw
  obtain ⟨rfl, q_1⟩ := hw
  have hP : va_P D vwCl [(h0, .inr (0, [.int (nI cd), .ref va, .ref pa, .int (nI ns), .int (nI ng), .int (nI nst), .int (nI cu), .int (nI pn), .int (nI pl)])), (va, .inl (kA 0, 72, .inl v))] H := hP
  have hD : va_D A [(h0, .inr (0, [.int (nI cd), .ref va, .ref pa, .int (nI ns), .int (nI ng), .int (nI nst), .int (nI cu), .int (nI pn), .int (nI pl)])), (va, .inl (kA 0, 72, .inl v))] := hD
  refine lv_iload_n hx hb dX1_isFirstGood_10 rfl (lv_at hl 1 rfl) ?_
  refine lv_icmp_ne (tgt := 18) hx hb dX1_isFirstGood_11 (by decide) (fun c11 => ?_) (fun c11 => ?_)
  ·
    refine lv_iconst (v := nI 0) hx hb dX1_isFirstGood_18 (by decide) ?_
    exact endZ hx hb hr hlocks (rfl) hK hP hD hS (⟨0, rfl, by first | rfl | assumption | omega | (rw [if_pos (by omega)]; first | done | rfl) | (rw [if_neg (by omega)]; first | done | rfl), by first | rfl | assumption | omega | (rw [if_pos (by omega)]; first | done | rfl) | (rw [if_neg (by omega)]; first | done | rfl), by first | exact ⟨fun _ => (iFG_of hs9 (by omega) q_1).mp (c11), fun _ => rfl⟩ | exact ⟨fun h => absurd h (by decide), fun h => absurd ((iFG_of hs9 (by omega) q_1).mpr h) c11⟩⟩) (Nat.le_of_ble_eq_true rfl) (Nat.le_of_ble_eq_true rfl) dX1_isFirstGood_19
  ·
    refine lv_iconst (v := nI 1) hx hb dX1_isFirstGood_14 (by decide) ?_
    refine lv_goto (tgt := 19) hx hb dX1_isFirstGood_15 (by decide) ?_
    exact endZ hx hb hr hlocks (rfl) hK hP hD hS (⟨1, rfl, by first | rfl | assumption | omega | (rw [if_pos (by omega)]; first | done | rfl) | (rw [if_neg (by omega)]; first | done | rfl), by first | rfl | assumption | omega | (rw [if_pos (by omega)]; first | done | rfl) | (rw [if_neg (by omega)]; first | done | rfl), by first | exact ⟨fun _ => (iFG_of hs9 (by omega) q_1).mp (c11), fun _ => rfl⟩ | exact ⟨fun h => absurd h (by decide), fun h => absurd ((iFG_of hs9 (by omega) q_1).mpr h) c11⟩⟩) (Nat.le_of_ble_eq_true rfl) (Nat.le_of_ble_eq_true rfl) dX1_isFirstGood_19

def wq_X1_hasTwins : List Cond := .code yX1_hasTwins cX1_hasTwins 3 (some .boolean) :: (([.fieldLink RX1 18 "FluxBench$Finds" "sectors" "I", .methodLink RX1 78 yX1_valueOf, .instanceMethod yX1_valueOf, .selects RX1 yX1_valueOf yX1_valueOf, .initialized RX1] : List Cond) ++ (u_ws RX1 TX1 9 ++ (wq_X1_valueOf_in ++ ([] : List Cond))))
theorem gd_X1_hasTwins : wq_X1_hasTwins.all goodWord = true := by decide +kernel
theorem n_X1_hasTwins_X1 : ∀ w ∈ u_ws RX1 TX1 9, w ∈ wq_X1_hasTwins := fun w h => List.mem_cons_of_mem _ (List.mem_append_right _ (List.mem_append_left _ h))
theorem h_X1_hasTwins_0 : GoodIn wq_X1_hasTwins (wsV RX1 78 RX1 yX1_valueOf wq_X1_valueOf_in) := goodIn_app (goodIn_r _ [2, 3, 4, 5] (by decide +kernel) (by decide +kernel)) (goodIn_sub (fun w h => List.mem_cons_of_mem _ (List.mem_append_right _ (List.mem_append_right _ (List.mem_append_left _ h)))) gd_X1_valueOf_in)
set_option maxHeartbeats 4000000 in
set_option maxRecDepth 100000 in
theorem c_X1_hasTwins (l : Launch) (D : va_G) (kA : Nat → ClassId) (z : Nat) (h0 va pa cd ns ng nst cu pn pl : Nat) (v : Nat → Int32) (hns : ns ≤ 8) : mI l D (tyL kA) z yX1_hasTwins wq_X1_hasTwins ({ frames := 1, cells := 0, slots := 0, locals := 23 }) [.ref h0] [(h0, .inr (0, [.int (nI cd), .ref va, .ref pa, .int (nI ns), .int (nI ng), .int (nI nst), .int (nI cu), .int (nI pn), .int (nI pl)])), (va, .inl (kA 0, 72, .inl v))] (fun r w => ∃ (b : Nat), w = [(h0, .inr (0, [.int (nI cd), .ref va, .ref pa, .int (nI ns), .int (nI ng), .int (nI nst), .int (nI cu), .int (nI pn), .int (nI pl)])), (va, .inl (kA 0, 72, .inl v))] ∧ (b ≤ 1) ∧ (r = nI b) ∧ (b = 1 ↔ isTw v ns)) := by
  refine ofI (cc := cX1_hasTwins) (maxL := 3) RX1 rfl (by decide +kernel) rfl (Nat.le_of_ble_eq_true rfl) ?_
  intro p e s m args below meth c A ls hE
  obtain ⟨hx, hb, hr, hml, hts, hown, hlocks, hA, hS, hP, hK, hD, hG, hl⟩ := hE
  have hl : lv_has ls 3 [(0, .ref h0)] := hl
  have hH : s.heap = s.heap := rfl
  refine lv_iconst (v := nI 0) hx hb dX1_hasTwins_0 (by decide) ?_
  refine lv_istore_n (lv' := [(1, .int (nI 0)), (0, .ref h0)]) hx hb dX1_hasTwins_1 rfl hl (by decide) rfl (fun ls hl => ?_)
  have lp_2 : ∀ (n_2 : Nat) (i : Nat), ns - i < n_2 → (i ≤ ns) → (∀ x, x < i → ∀ y, x < y → y < ns → v (x * 9 + 1) ≠ v (y * 9 + 1)) → ∀ (H : Heap) (locs : List Loc) (ls : Array Slot), va_P D vwCl [(h0, .inr (0, [.int (nI cd), .ref va, .ref pa, .int (nI ns), .int (nI ng), .int (nI nst), .int (nI cu), .int (nI pn), .int (nI pl)])), (va, .inl (kA 0, 72, .inl v))] H → va_D A [(h0, .inr (0, [.int (nI cd), .ref va, .ref pa, .int (nI ns), .int (nI ng), .int (nI nst), .int (nI cu), .int (nI pn), .int (nI pl)])), (va, .inl (kA 0, 72, .inl v))] → va_S A s.heap H locs → lv_has ls 3 [(1, .int (nI i)), (0, .ref h0)] → W p l e ({ frames := 1, cells := 0, slots := 0, locals := 23 }) s m args below meth c H locs 0 0 (MQ below (va_Qi (fun r w => ∃ (b : Nat), w = [(h0, .inr (0, [.int (nI cd), .ref va, .ref pa, .int (nI ns), .int (nI ng), .int (nI nst), .int (nI cu), .int (nI pn), .int (nI pl)])), (va, .inl (kA 0, 72, .inl v))] ∧ (b ≤ 1) ∧ (r = nI b) ∧ (b = 1 ↔ isTw v ns)) (fB D (tyL kA) A) A) args s 0 0 A) (F0 m 2 ls []) := by
    clear hP hD hS hl
    intro n_2
    induction n_2 with
    | zero =>
      intro i hm_2 hi1 hn9
      exact absurd hm_2 (by omega)
    | succ n_2 ih_2 =>
      intro i hm_2 hi1 hn9 H locs ls hP hD hS hl
      refine lv_iload_n hx hb dX1_hasTwins_2 rfl (lv_at hl 0 rfl) ?_
      refine lv_aload_n hx hb dX1_hasTwins_3 rfl (lv_at hl 1 rfl) ?_
      refine va_get (D := D) (ci := 0) (v := .int (nI ns)) (C := RX1) (T := TX1) (N := 9) hx hb hts n_X1_hasTwins_X1 hown hK hP 0 rfl rfl 3 (by decide) (wAt hts 1 (w := .fieldLink RX1 18 "FluxBench$Finds" "sectors" "I") rfl) (fun _ h9 => h9) rfl dX1_hasTwins_4 ?_
      refine lv_icmp_ge (tgt := 51) hx hb dX1_hasTwins_7 (by decide) (fun c7 => ?_) (fun c7 => ?_)
      ·
        rw [qle (a := ns) (b := i) (by omega) (by omega)] at c7
        refine lv_iconst (v := nI 0) hx hb dX1_hasTwins_51 (by decide) ?_
        exact endZ hx hb hr hlocks (rfl) hK hP hD hS (⟨0, rfl, by first | rfl | assumption | omega | (rw [if_pos (by omega)]; first | done | rfl) | (rw [if_neg (by omega)]; first | done | rfl), by first | rfl | assumption | omega | (rw [if_pos (by omega)]; first | done | rfl) | (rw [if_neg (by omega)]; first | done | rfl), ⟨fun h => absurd h (by decide), fun ⟨x, y, h1, h2, h3⟩ => absurd h3 (hn9 x (by omega) y h1 h2)⟩⟩) (Nat.le_of_ble_eq_true rfl) (Nat.le_of_ble_eq_true rfl) dX1_hasTwins_52
      ·
        rw [qle (a := ns) (b := i) (by omega) (by omega)] at c7
        refine lv_iload_n hx hb dX1_hasTwins_10 rfl (lv_at hl 0 rfl) ?_
        refine lv_iconst (v := nI 1) hx hb dX1_hasTwins_11 (by decide) ?_
        refine lv_iadd hx hb dX1_hasTwins_12 ?_
        rw [nI_add i 1]
        refine lv_istore_n (lv' := [(2, .int (nI (i + 1))), (1, .int (nI i)), (0, .ref h0)]) hx hb dX1_hasTwins_13 rfl hl (by decide) rfl (fun ls hl => ?_)
        have lp_14 : ∀ (n_14 : Nat) (j : Nat), ns - j < n_14 → (i < j) → (j ≤ ns) → (∀ y, y < j → i < y → v (i * 9 + 1) ≠ v (y * 9 + 1)) → ∀ (H : Heap) (locs : List Loc) (ls : Array Slot), va_P D vwCl [(h0, .inr (0, [.int (nI cd), .ref va, .ref pa, .int (nI ns), .int (nI ng), .int (nI nst), .int (nI cu), .int (nI pn), .int (nI pl)])), (va, .inl (kA 0, 72, .inl v))] H → va_D A [(h0, .inr (0, [.int (nI cd), .ref va, .ref pa, .int (nI ns), .int (nI ng), .int (nI nst), .int (nI cu), .int (nI pn), .int (nI pl)])), (va, .inl (kA 0, 72, .inl v))] → va_S A s.heap H locs → lv_has ls 3 [(2, .int (nI j)), (1, .int (nI i)), (0, .ref h0)] → W p l e ({ frames := 1, cells := 0, slots := 0, locals := 23 }) s m args below meth c H locs 0 0 (MQ below (va_Qi (fun r w => ∃ (b : Nat), w = [(h0, .inr (0, [.int (nI cd), .ref va, .ref pa, .int (nI ns), .int (nI ng), .int (nI nst), .int (nI cu), .int (nI pn), .int (nI pl)])), (va, .inl (kA 0, 72, .inl v))] ∧ (b ≤ 1) ∧ (r = nI b) ∧ (b = 1 ↔ isTw v ns)) (fB D (tyL kA) A) A) args s 0 0 A) (F0 m 14 ls []) := by
          clear hP hD hS hl
          intro n_14
          induction n_14 with
          | zero =>
            intro j hm_14 hj0 hj1 hn8
            exact absurd hm_14 (by omega)
          | succ n_14 ih_14 =>
            intro j hm_14 hj0 hj1 hn8 H locs ls hP hD hS hl
            refine lv_iload_n hx hb dX1_hasTwins_14 rfl (lv_at hl 0 rfl) ?_
            refine lv_aload_n hx hb dX1_hasTwins_15 rfl (lv_at hl 2 rfl) ?_
            refine va_get (D := D) (ci := 0) (v := .int (nI ns)) (C := RX1) (T := TX1) (N := 9) hx hb hts n_X1_hasTwins_X1 hown hK hP 0 rfl rfl 3 (by decide) (wAt hts 1 (w := .fieldLink RX1 18 "FluxBench$Finds" "sectors" "I") rfl) (fun _ h9 => h9) rfl dX1_hasTwins_16 ?_
            refine lv_icmp_ge (tgt := 45) hx hb dX1_hasTwins_19 (by decide) (fun c19 => ?_) (fun c19 => ?_)
            ·
              rw [qle (a := ns) (b := j) (by omega) (by omega)] at c19
              refine lv_iinc (v := nI (i + 1)) (lv' := [(1, .int (nI (i + 1))), (2, .int (nI j)), (0, .ref h0)]) hx hb dX1_hasTwins_45 hl (k := 1) rfl (nI_add i 1) (by decide) rfl (fun ls hl => ?_)
              refine lv_goto (tgt := 2) hx hb dX1_hasTwins_48 (by decide) ?_
              exact ih_2 (i + 1) (by omega) (by first | assumption | omega | rfl) (all_s hn9 (fun y h2 h3 => hn8 y (by omega) h2)) _ _ _ (hP.sub [0, 1] rfl) (hD.sub [0, 1] (by decide) rfl) hS (lv_sub hl [0, 2] rfl)
            ·
              rw [qle (a := ns) (b := j) (by omega) (by omega)] at c19
              refine lv_aload_n hx hb dX1_hasTwins_22 rfl (lv_at hl 2 rfl) ?_
              refine lv_iload_n hx hb dX1_hasTwins_23 rfl (lv_at hl 1 rfl) ?_
              refine lv_iconst (v := nI 1) hx hb dX1_hasTwins_24 (by decide) ?_
              have hF := va_free (wc := [(h0, .inr (0, [.int (nI cd), .ref va, .ref pa, .int (nI ns), .int (nI ng), .int (nI nst), .int (nI cu), .int (nI pn), .int (nI pl)])), (va, .inl (kA 0, 72, .inl v))]) hD hS hA [0, 1] rfl
              refine va_calli (va_runV (As := [.int (nI i), .int (nI 1)]) (rest := []) ⟨hx, hb, hml, hown, hts⟩ (c_X1_valueOf_in l D kA z h0 va pa cd ns ng nst cu pn pl i 1 v (by first | assumption | omega) (by first | assumption | omega) (by first | assumption | omega) _) (cwV 2 hts h_X1_hasTwins_0 rfl rfl rfl (by decide +kernel) ⟨Nat.le_of_ble_eq_true rfl, Nat.le_of_ble_eq_true rfl⟩) (fPv hK hP hD hS hG hF [0, 1] (by decide) rfl 0 0 rfl rfl rfl) rfl rfl hl.1 rfl (lv_room (Nat.le_of_ble_eq_true rfl)) dX1_hasTwins_25 ⟨Nat.le_of_ble_eq_true rfl, Nat.le_of_ble_eq_true rfl⟩) hS (fun q _ h => hF q h) hF (fun r_1 w1 t H locs ht hvm hw hB hz1 hk1 hS => ?_)
              obtain ⟨hP, hD⟩ := fJ (wr := []) hP hD [0, 1] [] rfl rfl (by decide) (by decide) hk1 hF ht hB
              try dsimp only at hw
              obtain ⟨rfl, e_1⟩ := hw
              have hP : va_P D vwCl [(h0, .inr (0, [.int (nI cd), .ref va, .ref pa, .int (nI ns), .int (nI ng), .int (nI nst), .int (nI cu), .int (nI pn), .int (nI pl)])), (va, .inl (kA 0, 72, .inl v))] H := hP
              have hD : va_D A [(h0, .inr (0, [.int (nI cd), .ref va, .ref pa, .int (nI ns), .int (nI ng), .int (nI nst), .int (nI cu), .int (nI pn), .int (nI pl)])), (va, .inl (kA 0, 72, .inl v))] := hD
              refine lv_aload_n hx hb dX1_hasTwins_28 rfl (lv_at hl 2 rfl) ?_
              refine lv_iload_n hx hb dX1_hasTwins_29 rfl (lv_at hl 0 rfl) ?_
              refine lv_iconst (v := nI 1) hx hb dX1_hasTwins_30 (by decide) ?_
              have hF := va_free (wc := [(h0, .inr (0, [.int (nI cd), .ref va, .ref pa, .int (nI ns), .int (nI ng), .int (nI nst), .int (nI cu), .int (nI pn), .int (nI pl)])), (va, .inl (kA 0, 72, .inl v))]) hD hS hA [0, 1] rfl
              refine va_calli (va_runV (As := [.int (nI j), .int (nI 1)]) (rest := [.int r_1]) ⟨hx, hb, hml, hown, hts⟩ (c_X1_valueOf_in l D kA z h0 va pa cd ns ng nst cu pn pl j 1 v (by first | assumption | omega) (by first | assumption | omega) (by first | assumption | omega) _) (cwV 2 hts h_X1_hasTwins_0 rfl rfl rfl (by decide +kernel) ⟨Nat.le_of_ble_eq_true rfl, Nat.le_of_ble_eq_true rfl⟩) (fPv hK hP hD hS hG hF [0, 1] (by decide) rfl 0 0 rfl rfl rfl) rfl rfl hl.1 rfl (lv_room (Nat.le_of_ble_eq_true rfl)) dX1_hasTwins_31 ⟨Nat.le_of_ble_eq_true rfl, Nat.le_of_ble_eq_true rfl⟩) hS (fun q _ h => hF q h) hF (fun r_2 w1 t H locs ht hvm hw hB hz1 hk1 hS => ?_)
              obtain ⟨hP, hD⟩ := fJ (wr := []) hP hD [0, 1] [] rfl rfl (by decide) (by decide) hk1 hF ht hB
              try dsimp only at hw
              obtain ⟨rfl, e_2⟩ := hw
              have hP : va_P D vwCl [(h0, .inr (0, [.int (nI cd), .ref va, .ref pa, .int (nI ns), .int (nI ng), .int (nI nst), .int (nI cu), .int (nI pn), .int (nI pl)])), (va, .inl (kA 0, 72, .inl v))] H := hP
              have hD : va_D A [(h0, .inr (0, [.int (nI cd), .ref va, .ref pa, .int (nI ns), .int (nI ng), .int (nI nst), .int (nI cu), .int (nI pn), .int (nI pl)])), (va, .inl (kA 0, 72, .inl v))] := hD
              refine lv_icmp_ne (tgt := 39) hx hb dX1_hasTwins_34 (by decide) (fun c34 => ?_) (fun c34 => ?_)
              ·
                refine lv_iinc (v := nI (j + 1)) (lv' := [(2, .int (nI (j + 1))), (1, .int (nI i)), (0, .ref h0)]) hx hb dX1_hasTwins_39 hl (k := 0) rfl (nI_add j 1) (by decide) rfl (fun ls hl => ?_)
                refine lv_goto (tgt := 14) hx hb dX1_hasTwins_42 (by decide) ?_
                exact ih_14 (j + 1) (by omega) (by first | assumption | omega | rfl) (by first | assumption | omega | rfl) (all_s hn8 (fun _ => by rw [← e_1, ← e_2]; exact c34)) _ _ _ (hP.sub [0, 1] rfl) (hD.sub [0, 1] (by decide) rfl) hS (lv_sub hl [0, 1, 2] rfl)
              ·
                refine lv_iconst (v := nI 1) hx hb dX1_hasTwins_37 (by decide) ?_
                exact endZ hx hb hr hlocks (rfl) hK hP hD hS (⟨1, rfl, by first | rfl | assumption | omega | (rw [if_pos (by omega)]; first | done | rfl) | (rw [if_neg (by omega)]; first | done | rfl), by first | rfl | assumption | omega | (rw [if_pos (by omega)]; first | done | rfl) | (rw [if_neg (by omega)]; first | done | rfl), ⟨fun _ => ⟨i, j, hj0, by omega, by rw [← e_1, ← e_2]; exact c34⟩, fun _ => rfl⟩⟩) (Nat.le_of_ble_eq_true rfl) (Nat.le_of_ble_eq_true rfl) dX1_hasTwins_38
        exact lp_14 (ns + 1) (i + 1) (by omega) (by first | assumption | omega | rfl) (by first | assumption | omega | rfl) (fun y h1 h2 => absurd h1 (by omega)) _ _ _ (hP.sub [0, 1] rfl) (hD.sub [0, 1] (by decide) rfl) hS (lv_sub hl [0, 1, 2] rfl)
  exact lp_2 (ns + 1) 0 (by omega) (by first | assumption | omega | rfl) (fun x hx => absurd hx (by omega)) _ _ _ (hP.sub [0, 1] rfl) (hD.sub [0, 1] (by decide) rfl) hS (lv_sub hl [0, 1] rfl)

def wq_X1_dataOf : List Cond := .code yX1_dataOf cX1_dataOf 4 (some .int) :: (([.methodLink RX1 78 yX1_valueOf, .instanceMethod yX1_valueOf, .selects RX1 yX1_valueOf yX1_valueOf, .initialized RX1] : List Cond) ++ (wq_X1_valueOf_in ++ ([] : List Cond)))
theorem gd_X1_dataOf : wq_X1_dataOf.all goodWord = true := by decide +kernel
theorem h_X1_dataOf_0 : GoodIn wq_X1_dataOf (wsV RX1 78 RX1 yX1_valueOf wq_X1_valueOf_in) := goodIn_app (goodIn_r _ [1, 2, 3, 4] (by decide +kernel) (by decide +kernel)) (goodIn_sub (fun w h => List.mem_cons_of_mem _ (List.mem_append_right _ (List.mem_append_left _ h))) gd_X1_valueOf_in)
set_option maxHeartbeats 4000000 in
set_option maxRecDepth 100000 in
theorem c_X1_dataOf (l : Launch) (D : va_G) (kA : Nat → ClassId) (z : Nat) (h0 va pa cd ns ng nst cu pn pl : Nat) (v : Nat → Int32) (s9 : Nat) (hs9 : s9 < 8) : mI l D (tyL kA) z yX1_dataOf wq_X1_dataOf ({ frames := 1, cells := 0, slots := 0, locals := 23 }) [.ref h0, .int (nI s9)] [(h0, .inr (0, [.int (nI cd), .ref va, .ref pa, .int (nI ns), .int (nI ng), .int (nI nst), .int (nI cu), .int (nI pn), .int (nI pl)])), (va, .inl (kA 0, 72, .inl v))] (fun r w => ∃ (da : Int32), w = [(h0, .inr (0, [.int (nI cd), .ref va, .ref pa, .int (nI ns), .int (nI ng), .int (nI nst), .int (nI cu), .int (nI pn), .int (nI pl)])), (va, .inl (kA 0, 72, .inl v))] ∧ (r = da)) := by
  refine ofI (cc := cX1_dataOf) (maxL := 4) RX1 rfl (by decide +kernel) rfl (Nat.le_of_ble_eq_true rfl) ?_
  intro p e s m args below meth c A ls hE
  obtain ⟨hx, hb, hr, hml, hts, hown, hlocks, hA, hS, hP, hK, hD, hG, hl⟩ := hE
  have hl : lv_has ls 4 [(0, .ref h0), (1, .int (nI s9))] := hl
  have hH : s.heap = s.heap := rfl
  refine lv_iconst (v := nI 0) hx hb dX1_dataOf_0 (by decide) ?_
  refine lv_istore_n (lv' := [(2, .int (nI 0)), (0, .ref h0), (1, .int (nI s9))]) hx hb dX1_dataOf_1 rfl hl (by decide) rfl (fun ls hl => ?_)
  refine lv_iconst (v := nI 0) hx hb dX1_dataOf_2 (by decide) ?_
  refine lv_istore_n (lv' := [(3, .int (nI 0)), (2, .int (nI 0)), (0, .ref h0), (1, .int (nI s9))]) hx hb dX1_dataOf_3 rfl hl (by decide) rfl (fun ls hl => ?_)
  have lp_4 : ∀ (n_4 : Nat) (i : Nat) (da : Int32), 4 - i < n_4 → (i ≤ 4) → ∀ (H : Heap) (locs : List Loc) (ls : Array Slot), va_P D vwCl [(h0, .inr (0, [.int (nI cd), .ref va, .ref pa, .int (nI ns), .int (nI ng), .int (nI nst), .int (nI cu), .int (nI pn), .int (nI pl)])), (va, .inl (kA 0, 72, .inl v))] H → va_D A [(h0, .inr (0, [.int (nI cd), .ref va, .ref pa, .int (nI ns), .int (nI ng), .int (nI nst), .int (nI cu), .int (nI pn), .int (nI pl)])), (va, .inl (kA 0, 72, .inl v))] → va_S A s.heap H locs → lv_has ls 4 [(3, .int (nI i)), (2, .int da), (0, .ref h0), (1, .int (nI s9))] → W p l e ({ frames := 1, cells := 0, slots := 0, locals := 23 }) s m args below meth c H locs 0 0 (MQ below (va_Qi (fun r w => ∃ (da : Int32), w = [(h0, .inr (0, [.int (nI cd), .ref va, .ref pa, .int (nI ns), .int (nI ng), .int (nI nst), .int (nI cu), .int (nI pn), .int (nI pl)])), (va, .inl (kA 0, 72, .inl v))] ∧ (r = da)) (fB D (tyL kA) A) A) args s 0 0 A) (F0 m 4 ls []) := by
    clear hP hD hS hl
    intro n_4
    induction n_4 with
    | zero =>
      intro i da hm_4 hi1
      exact absurd hm_4 (by omega)
    | succ n_4 ih_4 =>
      intro i da hm_4 hi1 H locs ls hP hD hS hl
      refine lv_iload_n hx hb dX1_dataOf_4 rfl (lv_at hl 0 rfl) ?_
      refine lv_iconst (v := nI 4) hx hb dX1_dataOf_5 (by decide) ?_
      refine lv_icmp_ge (tgt := 35) hx hb dX1_dataOf_6 (by decide) (fun c6 => ?_) (fun c6 => ?_)
      ·
        rw [qle (a := 4) (b := i) (by omega) (by omega)] at c6
        refine lv_iload_n hx hb dX1_dataOf_35 rfl (lv_at hl 1 rfl) ?_
        exact endI hx hb hr hlocks hK hP hD hS (⟨da, rfl, by first | rfl | assumption | omega | (rw [if_pos (by omega)]; first | done | rfl) | (rw [if_neg (by omega)]; first | done | rfl)⟩) (Nat.le_of_ble_eq_true rfl) (Nat.le_of_ble_eq_true rfl) dX1_dataOf_36
      ·
        rw [qle (a := 4) (b := i) (by omega) (by omega)] at c6
        refine lv_iload_n hx hb dX1_dataOf_9 rfl (lv_at hl 1 rfl) ?_
        refine lv_aload_n hx hb dX1_dataOf_10 rfl (lv_at hl 2 rfl) ?_
        refine lv_iload_n hx hb dX1_dataOf_11 rfl (lv_at hl 3 rfl) ?_
        refine lv_iconst (v := nI 5) hx hb dX1_dataOf_12 (by decide) ?_
        refine lv_iload_n hx hb dX1_dataOf_13 rfl (lv_at hl 0 rfl) ?_
        refine lv_iadd hx hb dX1_dataOf_14 ?_
        rw [nI_add 5 i]
        have hF := va_free (wc := [(h0, .inr (0, [.int (nI cd), .ref va, .ref pa, .int (nI ns), .int (nI ng), .int (nI nst), .int (nI cu), .int (nI pn), .int (nI pl)])), (va, .inl (kA 0, 72, .inl v))]) hD hS hA [0, 1] rfl
        refine va_calli (va_runV (As := [.int (nI s9), .int (nI (5 + i))]) (rest := [.int da]) ⟨hx, hb, hml, hown, hts⟩ (c_X1_valueOf_in l D kA z h0 va pa cd ns ng nst cu pn pl s9 (5 + i) v (by first | assumption | omega) (by first | assumption | omega) (by first | assumption | omega) _) (cwV 2 hts h_X1_dataOf_0 rfl rfl rfl (by decide +kernel) ⟨Nat.le_of_ble_eq_true rfl, Nat.le_of_ble_eq_true rfl⟩) (fPv hK hP hD hS hG hF [0, 1] (by decide) rfl 0 0 rfl rfl rfl) rfl rfl hl.1 rfl (lv_room (Nat.le_of_ble_eq_true rfl)) dX1_dataOf_15 ⟨Nat.le_of_ble_eq_true rfl, Nat.le_of_ble_eq_true rfl⟩) hS (fun q _ h => hF q h) hF (fun r_1 w1 t H locs ht hvm hw hB hz1 hk1 hS => ?_)
        obtain ⟨hP, hD⟩ := fJ (wr := []) hP hD [0, 1] [] rfl rfl (by decide) (by decide) hk1 hF ht hB
        try dsimp only at hw
        obtain ⟨rfl, e_1⟩ := hw
        have hP : va_P D vwCl [(h0, .inr (0, [.int (nI cd), .ref va, .ref pa, .int (nI ns), .int (nI ng), .int (nI nst), .int (nI cu), .int (nI pn), .int (nI pl)])), (va, .inl (kA 0, 72, .inl v))] H := hP
        have hD : va_D A [(h0, .inr (0, [.int (nI cd), .ref va, .ref pa, .int (nI ns), .int (nI ng), .int (nI nst), .int (nI cu), .int (nI pn), .int (nI pl)])), (va, .inl (kA 0, 72, .inl v))] := hD
        refine lv_sipush (v := nI 255) hx hb dX1_dataOf_18 (by decide) ?_
        refine lv_iand hx hb dX1_dataOf_21 ?_
        refine lv_bipush (v := nI 8) hx hb dX1_dataOf_22 (by decide) ?_
        refine lv_iload_n hx hb dX1_dataOf_24 rfl (lv_at hl 0 rfl) ?_
        refine lv_imul hx hb dX1_dataOf_25 ?_
        rw [pk_mul 8 i]
        refine lv_ishl hx hb dX1_dataOf_26 ?_
        refine lv_ior hx hb dX1_dataOf_27 ?_
        refine lv_istore_n (lv' := [(2, .int (da ||| ((r_1 &&& (nI 255)) <<< ((nI (8 * i)) &&& 31)))), (3, .int (nI i)), (0, .ref h0), (1, .int (nI s9))]) hx hb dX1_dataOf_28 rfl hl (by decide) rfl (fun ls hl => ?_)
        refine lv_iinc (v := nI (i + 1)) (lv' := [(3, .int (nI (i + 1))), (2, .int (da ||| ((r_1 &&& (nI 255)) <<< ((nI (8 * i)) &&& 31)))), (0, .ref h0), (1, .int (nI s9))]) hx hb dX1_dataOf_29 hl (k := 1) rfl (nI_add i 1) (by decide) rfl (fun ls hl => ?_)
        refine lv_goto (tgt := 4) hx hb dX1_dataOf_32 (by decide) ?_
        exact ih_4 (i + 1) (da ||| ((r_1 &&& (nI 255)) <<< ((nI (8 * i)) &&& 31))) (by omega) (by first | assumption | omega | rfl) _ _ _ (hP.sub [0, 1] rfl) (hD.sub [0, 1] (by decide) rfl) hS (lv_sub hl [0, 1, 2, 3] rfl)
  exact lp_4 5 0 (nI 0) (by omega) (by first | assumption | omega | rfl) _ _ _ (hP.sub [0, 1] rfl) (hD.sub [0, 1] (by decide) rfl) hS (lv_sub hl [0, 1, 2, 3] rfl)
