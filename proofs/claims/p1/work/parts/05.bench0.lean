def wq_X6_init : List Cond := .code yX6_init cX6_init 1 none :: (([.methodLink RX6 1 objectInit, .instanceMethod objectInit, .code objectInit ⟨#[0xb1]⟩ 1 none, .classLink RX6 9 RX4, .fieldLink RX6 11 "FluxBench" "tracks" "[LFluxBench$Track;", .fieldLink RX6 15 "FluxBench" "trackCount" "I", .fieldLink RX6 19 "FluxBench" "speed" "I", .fieldLink RX6 22 "FluxBench" "draw" "I", .fieldLink RX6 25 "FluxBench" "reads" "I", .fieldLink RX6 28 "FluxBench" "plainCopies" "I", .fieldLink RX6 31 "FluxBench" "rawCopies" "I"] : List Cond) ++ (u_ws RX6 TX6 7 ++ ([] : List Cond)))
theorem gd_X6_init : wq_X6_init.all goodWord = true := by decide +kernel
theorem n_X6_init_X6 : ∀ w ∈ u_ws RX6 TX6 7, w ∈ wq_X6_init := fun w h => List.mem_cons_of_mem _ (List.mem_append_right _ (List.mem_append_left _ h))
set_option maxHeartbeats 4000000 in
set_option maxRecDepth 100000 in
theorem c_X6_init (l : Launch) (D : va_G) (kA : Nat → ClassId) (z : Nat) (h0 : Nat)  : mV l D (tyL kA) z yX6_init wq_X6_init ({ frames := 1, cells := 1, slots := 4, locals := 12 }) [.ref h0] [(h0, .inr (7, [.null, .int 0, .int 0, .int 0, .int 0, .int 0, .int 0]))] (fun w => ∃ (a : Nat), w = [(h0, .inr (7, [.ref a, .int (nI 0), .int (nI 8), .int (nI 0), .int (nI 0), .int (nI 0), .int (nI 0)])), (a, .inl (kA 2, 4, .inr (.inr (.inr (.inr (fun _ => none))))))]) := by
  refine ofV (cc := cX6_init) (maxL := 1) RX6 rfl (by decide +kernel) rfl (Nat.le_of_ble_eq_true rfl) ?_
  intro p e s m args below meth c A ls hnm hE
  obtain ⟨hx, hb, hr, hml, hts, hown, hlocks, hA, hS, hP, hK, hD, hG, hl⟩ := hE
  have hl : lv_has ls 1 [(0, .ref h0)] := hl
  have hH : s.heap = s.heap := rfl
  refine lv_aload_n hx hb dX6_init_0 rfl (lv_at hl 0 rfl) ?_
  refine W.objInit hx hb hown (wAt hts 1 (w := .methodLink RX6 1 objectInit) rfl) (wAt hts 2 (w := .instanceMethod objectInit) rfl) (wAt hts 3 (w := .code objectInit ⟨#[0xb1]⟩ 1 none) rfl) rfl (by rw [hml]; exact hl.1) rfl dX6_init_1 (Nat.le_of_ble_eq_true rfl) (Nat.le_of_ble_eq_true rfl) ?_
  refine W.eq (g2 := F0 m 4 ls []) rfl ?_
  refine lv_aload_n hx hb dX6_init_4 rfl (lv_at hl 0 rfl) ?_
  refine lv_iconst (v := nI 4) hx hb dX6_init_5 (by decide) ?_
  refine va_newq (N' := 4) (C := "FluxBench$Track") hx hb hown (wAt hts 4 (w := .classLink RX6 9 RX4) rfl) (hG.2.2.2.1.2.2.1 _ (List.mem_of_getElem? (i := 0) rfl)) hK hP hD hS hA (nI_pos (n := 4) (by decide)) (nI_clamp (n := 4) (by decide)) (by decide) (Nat.le_of_ble_eq_true rfl) (Nat.le_of_ble_eq_true rfl) dX6_init_6 (fun q_1 cA H hK hP hD hS => ?_)
  obtain rfl : cA = kA 2 := tyEq hK 6 2 rfl rfl
  have hK : va_K D vwCl (tyL kA) s := hK.sub [0, 1, 2, 3, 4, 5] rfl
  have hP : va_P D vwCl [(h0, .inr (7, [.null, .int 0, .int 0, .int 0, .int 0, .int 0, .int 0])), (q_1, .inl (kA 2, 4, .inr (.inr (.inr (.inr (fun _ => none))))))] H := hP
  have hD : va_D A [(h0, .inr (7, [.null, .int 0, .int 0, .int 0, .int 0, .int 0, .int 0])), (q_1, .inl (kA 2, 4, .inr (.inr (.inr (.inr (fun _ => none))))))] := hD
  refine va_putF (D := D) (ci := 7) (v := .ref q_1) (ty := (tyX6 0)) (C := RX6) (T := TX6) (N := 7) hx hb hts n_X6_init_X6 tyX6 tyX6_ok nmX6 hown hK hP hD hS 0 rfl rfl 0 (by decide) (wAt hts 5 (w := .fieldLink RX6 11 "FluxBench" "tracks" "[LFluxBench$Track;") rfl) (fun _ h9 => h9) rfl hnm rfl (by decide +kernel) rfl rfl (Nat.le_of_ble_eq_true rfl) dX6_init_9 (fun H locs hP hD hS => ?_)
  have hP : va_P D vwCl [(h0, .inr (7, [.ref q_1, .int 0, .int 0, .int 0, .int 0, .int 0, .int 0])), (q_1, .inl (kA 2, 4, .inr (.inr (.inr (.inr (fun _ => none))))))] H := hP
  have hD : va_D A [(h0, .inr (7, [.ref q_1, .int 0, .int 0, .int 0, .int 0, .int 0, .int 0])), (q_1, .inl (kA 2, 4, .inr (.inr (.inr (.inr (fun _ => none))))))] := hD
  refine lv_aload_n hx hb dX6_init_12 rfl (lv_at hl 0 rfl) ?_
  refine lv_iconst (v := nI 0) hx hb dX6_init_13 (by decide) ?_
  refine va_put (D := D) (ci := 7) (v := .int (nI 0)) (ty := .int) (C := RX6) (T := TX6) (N := 7) hx hb hts n_X6_init_X6 tyX6 tyX6_ok nmX6 hown hK hP hD hS 0 rfl rfl 1 (by decide) (wAt hts 6 (w := .fieldLink RX6 15 "FluxBench" "trackCount" "I") rfl) (fun _ h9 => h9) rfl (by decide +kernel) rfl rfl (Nat.le_of_ble_eq_true rfl) dX6_init_14 (fun H locs hP hD hS => ?_)
  have hP : va_P D vwCl [(h0, .inr (7, [.ref q_1, .int (nI 0), .int 0, .int 0, .int 0, .int 0, .int 0])), (q_1, .inl (kA 2, 4, .inr (.inr (.inr (.inr (fun _ => none))))))] H := hP
  have hD : va_D A [(h0, .inr (7, [.ref q_1, .int (nI 0), .int 0, .int 0, .int 0, .int 0, .int 0])), (q_1, .inl (kA 2, 4, .inr (.inr (.inr (.inr (fun _ => none))))))] := hD
  refine lv_aload_n hx hb dX6_init_17 rfl (lv_at hl 0 rfl) ?_
  refine lv_bipush (v := nI 8) hx hb dX6_init_18 (by decide) ?_
  refine va_put (D := D) (ci := 7) (v := .int (nI 8)) (ty := .int) (C := RX6) (T := TX6) (N := 7) hx hb hts n_X6_init_X6 tyX6 tyX6_ok nmX6 hown hK hP hD hS 0 rfl rfl 2 (by decide) (wAt hts 7 (w := .fieldLink RX6 19 "FluxBench" "speed" "I") rfl) (fun _ h9 => h9) rfl (by decide +kernel) rfl rfl (Nat.le_of_ble_eq_true rfl) dX6_init_20 (fun H locs hP hD hS => ?_)
  have hP : va_P D vwCl [(h0, .inr (7, [.ref q_1, .int (nI 0), .int (nI 8), .int 0, .int 0, .int 0, .int 0])), (q_1, .inl (kA 2, 4, .inr (.inr (.inr (.inr (fun _ => none))))))] H := hP
  have hD : va_D A [(h0, .inr (7, [.ref q_1, .int (nI 0), .int (nI 8), .int 0, .int 0, .int 0, .int 0])), (q_1, .inl (kA 2, 4, .inr (.inr (.inr (.inr (fun _ => none))))))] := hD
  refine lv_aload_n hx hb dX6_init_23 rfl (lv_at hl 0 rfl) ?_
  refine lv_iconst (v := nI 0) hx hb dX6_init_24 (by decide) ?_
  refine va_put (D := D) (ci := 7) (v := .int (nI 0)) (ty := .int) (C := RX6) (T := TX6) (N := 7) hx hb hts n_X6_init_X6 tyX6 tyX6_ok nmX6 hown hK hP hD hS 0 rfl rfl 3 (by decide) (wAt hts 8 (w := .fieldLink RX6 22 "FluxBench" "draw" "I") rfl) (fun _ h9 => h9) rfl (by decide +kernel) rfl rfl (Nat.le_of_ble_eq_true rfl) dX6_init_25 (fun H locs hP hD hS => ?_)
  have hP : va_P D vwCl [(h0, .inr (7, [.ref q_1, .int (nI 0), .int (nI 8), .int (nI 0), .int 0, .int 0, .int 0])), (q_1, .inl (kA 2, 4, .inr (.inr (.inr (.inr (fun _ => none))))))] H := hP
  have hD : va_D A [(h0, .inr (7, [.ref q_1, .int (nI 0), .int (nI 8), .int (nI 0), .int 0, .int 0, .int 0])), (q_1, .inl (kA 2, 4, .inr (.inr (.inr (.inr (fun _ => none))))))] := hD
  refine lv_aload_n hx hb dX6_init_28 rfl (lv_at hl 0 rfl) ?_
  refine lv_iconst (v := nI 0) hx hb dX6_init_29 (by decide) ?_
  refine va_put (D := D) (ci := 7) (v := .int (nI 0)) (ty := .int) (C := RX6) (T := TX6) (N := 7) hx hb hts n_X6_init_X6 tyX6 tyX6_ok nmX6 hown hK hP hD hS 0 rfl rfl 4 (by decide) (wAt hts 9 (w := .fieldLink RX6 25 "FluxBench" "reads" "I") rfl) (fun _ h9 => h9) rfl (by decide +kernel) rfl rfl (Nat.le_of_ble_eq_true rfl) dX6_init_30 (fun H locs hP hD hS => ?_)
  have hP : va_P D vwCl [(h0, .inr (7, [.ref q_1, .int (nI 0), .int (nI 8), .int (nI 0), .int (nI 0), .int 0, .int 0])), (q_1, .inl (kA 2, 4, .inr (.inr (.inr (.inr (fun _ => none))))))] H := hP
  have hD : va_D A [(h0, .inr (7, [.ref q_1, .int (nI 0), .int (nI 8), .int (nI 0), .int (nI 0), .int 0, .int 0])), (q_1, .inl (kA 2, 4, .inr (.inr (.inr (.inr (fun _ => none))))))] := hD
  refine lv_aload_n hx hb dX6_init_33 rfl (lv_at hl 0 rfl) ?_
  refine lv_iconst (v := nI 0) hx hb dX6_init_34 (by decide) ?_
  refine va_put (D := D) (ci := 7) (v := .int (nI 0)) (ty := .int) (C := RX6) (T := TX6) (N := 7) hx hb hts n_X6_init_X6 tyX6 tyX6_ok nmX6 hown hK hP hD hS 0 rfl rfl 5 (by decide) (wAt hts 10 (w := .fieldLink RX6 28 "FluxBench" "plainCopies" "I") rfl) (fun _ h9 => h9) rfl (by decide +kernel) rfl rfl (Nat.le_of_ble_eq_true rfl) dX6_init_35 (fun H locs hP hD hS => ?_)
  have hP : va_P D vwCl [(h0, .inr (7, [.ref q_1, .int (nI 0), .int (nI 8), .int (nI 0), .int (nI 0), .int (nI 0), .int 0])), (q_1, .inl (kA 2, 4, .inr (.inr (.inr (.inr (fun _ => none))))))] H := hP
  have hD : va_D A [(h0, .inr (7, [.ref q_1, .int (nI 0), .int (nI 8), .int (nI 0), .int (nI 0), .int (nI 0), .int 0])), (q_1, .inl (kA 2, 4, .inr (.inr (.inr (.inr (fun _ => none))))))] := hD
  refine lv_aload_n hx hb dX6_init_38 rfl (lv_at hl 0 rfl) ?_
  refine lv_iconst (v := nI 0) hx hb dX6_init_39 (by decide) ?_
  refine va_put (D := D) (ci := 7) (v := .int (nI 0)) (ty := .int) (C := RX6) (T := TX6) (N := 7) hx hb hts n_X6_init_X6 tyX6 tyX6_ok nmX6 hown hK hP hD hS 0 rfl rfl 6 (by decide) (wAt hts 11 (w := .fieldLink RX6 31 "FluxBench" "rawCopies" "I") rfl) (fun _ h9 => h9) rfl (by decide +kernel) rfl rfl (Nat.le_of_ble_eq_true rfl) dX6_init_40 (fun H locs hP hD hS => ?_)
  have hP : va_P D vwCl [(h0, .inr (7, [.ref q_1, .int (nI 0), .int (nI 8), .int (nI 0), .int (nI 0), .int (nI 0), .int (nI 0)])), (q_1, .inl (kA 2, 4, .inr (.inr (.inr (.inr (fun _ => none))))))] H := hP
  have hD : va_D A [(h0, .inr (7, [.ref q_1, .int (nI 0), .int (nI 8), .int (nI 0), .int (nI 0), .int (nI 0), .int (nI 0)])), (q_1, .inl (kA 2, 4, .inr (.inr (.inr (.inr (fun _ => none))))))] := hD
  exact endV hx hb hr hlocks hK hP hD hS (⟨q_1, rfl⟩) (Nat.le_of_ble_eq_true rfl) (Nat.le_of_ble_eq_true rfl) dX6_init_43

