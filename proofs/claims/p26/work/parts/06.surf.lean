def wq_X3_init : List Cond := .code yX3_init cX3_init 1 none :: (([.methodLink RX3 3 objectInit, .instanceMethod objectInit, .code objectInit ⟨#[0xb1]⟩ 1 none, .arrayClass .int, .fieldLink RX3 9 "FluxBench$Surface" "bits" "[I", .fieldLink RX3 15 "FluxBench$Surface" "widths" "[I", .arrayClass .boolean, .fieldLink RX3 18 "FluxBench$Surface" "weakness" "[Z", .fieldLink RX3 22 "FluxBench$Surface" "dirtiness" "[I", .fieldLink RX3 25 "FluxBench$Surface" "length" "I", .fieldLink RX3 29 "FluxBench$Surface" "bitAhead" "I"] : List Cond) ++ (u_ws RX3 TX3 6 ++ ([] : List Cond)))
theorem gd_X3_init : wq_X3_init.all goodWord = true := by decide +kernel
theorem n_X3_init_X3 : ∀ w ∈ u_ws RX3 TX3 6, w ∈ wq_X3_init := fun w h => List.mem_cons_of_mem _ (List.mem_append_right _ (List.mem_append_left _ h))
set_option maxHeartbeats 4000000 in
set_option maxRecDepth 100000 in
theorem c_X3_init (l : Launch) (D : va_G) (kA : Nat → ClassId) (z : Nat) (h0 : Nat)  : mV l D (tyL kA) z yX3_init wq_X3_init ({ frames := 1, cells := 4, slots := 1600, locals := 12 }) [.ref h0] [(h0, .inr (2, [.null, .null, .null, .null, .int 0, .int 0]))] (fun w => ∃ (a1 a2 a3 a4 : Nat), w = [(h0, .inr (2, [.ref a1, .ref a2, .ref a3, .ref a4, .int (nI 0), .int (nI 0)])), (a1, .inl (kA 0, 400, .inl (fun _ => 0))), (a2, .inl (kA 0, 400, .inl (fun _ => 0))), (a3, .inl (kA 1, 400, .inl (fun _ => 0))), (a4, .inl (kA 0, 400, .inl (fun _ => 0)))]) := by
  refine ofV (cc := cX3_init) (maxL := 1) RX3 rfl (by decide +kernel) rfl (Nat.le_of_ble_eq_true rfl) ?_
  intro p e s m args below meth c A ls hnm hE
  obtain ⟨hx, hb, hr, hml, hts, hown, hlocks, hA, hS, hP, hK, hD, hG, hl⟩ := hE
  have hl : lv_has ls 1 [(0, .ref h0)] := hl
  have hH : s.heap = s.heap := rfl
  refine lv_aload_n hx hb dX3_init_0 rfl (lv_at hl 0 rfl) ?_
  refine W.objInit hx hb hown (wAt hts 1 (w := .methodLink RX3 3 objectInit) rfl) (wAt hts 2 (w := .instanceMethod objectInit) rfl) (wAt hts 3 (w := .code objectInit ⟨#[0xb1]⟩ 1 none) rfl) rfl (by rw [hml]; exact hl.1) rfl dX3_init_1 (Nat.le_of_ble_eq_true rfl) (Nat.le_of_ble_eq_true rfl) ?_
  refine W.eq (g2 := F0 m 4 ls []) rfl ?_
  refine lv_aload_n hx hb dX3_init_4 rfl (lv_at hl 0 rfl) ?_
  refine lv_sipush (v := nI 400) hx hb dX3_init_5 (by decide) ?_
  refine va_newa (atype := .int) (ty := .int) (N' := 400) (a0 := (400, .inl (fun _ => 0))) hx hb (wAt hts 4 (w := .arrayClass .int) rfl) rfl hK hP hD hS hA (fun _ => rfl) (nI_pos (n := 400) (by decide)) (nI_clamp (n := 400) (by decide)) (by decide) (Nat.le_of_ble_eq_true rfl) (Nat.le_of_ble_eq_true rfl) dX3_init_8 (fun q_1 cA H hK hP hD hS => ?_)
  obtain rfl : cA = kA 0 := tyEq hK 3 0 rfl rfl
  have hK : va_K D vwCl (tyL kA) s := hK.sub [0, 1, 2] rfl
  have hP : va_P D vwCl [(h0, .inr (2, [.null, .null, .null, .null, .int 0, .int 0])), (q_1, .inl (kA 0, 400, .inl (fun _ => 0)))] H := hP
  have hD : va_D A [(h0, .inr (2, [.null, .null, .null, .null, .int 0, .int 0])), (q_1, .inl (kA 0, 400, .inl (fun _ => 0)))] := hD
  refine va_putF (D := D) (ci := 2) (v := .ref q_1) (ty := (tyX3 0)) (C := RX3) (T := TX3) (N := 6) hx hb hts n_X3_init_X3 tyX3 tyX3_ok nmX3 hown hK hP hD hS 0 rfl rfl 0 (by decide) (wAt hts 5 (w := .fieldLink RX3 9 "FluxBench$Surface" "bits" "[I") rfl) (fun _ h9 => h9) rfl hnm rfl (by decide +kernel) rfl rfl (Nat.le_of_ble_eq_true rfl) dX3_init_10 (fun H locs hP hD hS => ?_)
  have hP : va_P D vwCl [(h0, .inr (2, [.ref q_1, .null, .null, .null, .int 0, .int 0])), (q_1, .inl (kA 0, 400, .inl (fun _ => 0)))] H := hP
  have hD : va_D A [(h0, .inr (2, [.ref q_1, .null, .null, .null, .int 0, .int 0])), (q_1, .inl (kA 0, 400, .inl (fun _ => 0)))] := hD
  refine lv_aload_n hx hb dX3_init_13 rfl (lv_at hl 0 rfl) ?_
  refine lv_sipush (v := nI 400) hx hb dX3_init_14 (by decide) ?_
  refine va_newa (atype := .int) (ty := .int) (N' := 400) (a0 := (400, .inl (fun _ => 0))) hx hb (wAt hts 4 (w := .arrayClass .int) rfl) rfl hK hP hD hS hA (fun _ => rfl) (nI_pos (n := 400) (by decide)) (nI_clamp (n := 400) (by decide)) (by decide) (Nat.le_of_ble_eq_true rfl) (Nat.le_of_ble_eq_true rfl) dX3_init_17 (fun q_2 cA H hK hP hD hS => ?_)
  obtain rfl : cA = kA 0 := tyEq hK 3 0 rfl rfl
  have hK : va_K D vwCl (tyL kA) s := hK.sub [0, 1, 2] rfl
  have hP : va_P D vwCl [(h0, .inr (2, [.ref q_1, .null, .null, .null, .int 0, .int 0])), (q_1, .inl (kA 0, 400, .inl (fun _ => 0))), (q_2, .inl (kA 0, 400, .inl (fun _ => 0)))] H := hP
  have hD : va_D A [(h0, .inr (2, [.ref q_1, .null, .null, .null, .int 0, .int 0])), (q_1, .inl (kA 0, 400, .inl (fun _ => 0))), (q_2, .inl (kA 0, 400, .inl (fun _ => 0)))] := hD
  refine va_putF (D := D) (ci := 2) (v := .ref q_2) (ty := (tyX3 1)) (C := RX3) (T := TX3) (N := 6) hx hb hts n_X3_init_X3 tyX3 tyX3_ok nmX3 hown hK hP hD hS 0 rfl rfl 1 (by decide) (wAt hts 6 (w := .fieldLink RX3 15 "FluxBench$Surface" "widths" "[I") rfl) (fun _ h9 => h9) rfl hnm rfl (by decide +kernel) rfl rfl (Nat.le_of_ble_eq_true rfl) dX3_init_19 (fun H locs hP hD hS => ?_)
  have hP : va_P D vwCl [(h0, .inr (2, [.ref q_1, .ref q_2, .null, .null, .int 0, .int 0])), (q_1, .inl (kA 0, 400, .inl (fun _ => 0))), (q_2, .inl (kA 0, 400, .inl (fun _ => 0)))] H := hP
  have hD : va_D A [(h0, .inr (2, [.ref q_1, .ref q_2, .null, .null, .int 0, .int 0])), (q_1, .inl (kA 0, 400, .inl (fun _ => 0))), (q_2, .inl (kA 0, 400, .inl (fun _ => 0)))] := hD
  refine lv_aload_n hx hb dX3_init_22 rfl (lv_at hl 0 rfl) ?_
  refine lv_sipush (v := nI 400) hx hb dX3_init_23 (by decide) ?_
  refine va_newa (atype := .boolean) (ty := .boolean) (N' := 400) (a0 := (400, .inl (fun _ => 0))) hx hb (wAt hts 7 (w := .arrayClass .boolean) rfl) rfl hK hP hD hS hA (fun _ => rfl) (nI_pos (n := 400) (by decide)) (nI_clamp (n := 400) (by decide)) (by decide) (Nat.le_of_ble_eq_true rfl) (Nat.le_of_ble_eq_true rfl) dX3_init_26 (fun q_3 cA H hK hP hD hS => ?_)
  obtain rfl : cA = kA 1 := tyEq hK 3 1 rfl rfl
  have hK : va_K D vwCl (tyL kA) s := hK.sub [0, 1, 2] rfl
  have hP : va_P D vwCl [(h0, .inr (2, [.ref q_1, .ref q_2, .null, .null, .int 0, .int 0])), (q_1, .inl (kA 0, 400, .inl (fun _ => 0))), (q_2, .inl (kA 0, 400, .inl (fun _ => 0))), (q_3, .inl (kA 1, 400, .inl (fun _ => 0)))] H := hP
  have hD : va_D A [(h0, .inr (2, [.ref q_1, .ref q_2, .null, .null, .int 0, .int 0])), (q_1, .inl (kA 0, 400, .inl (fun _ => 0))), (q_2, .inl (kA 0, 400, .inl (fun _ => 0))), (q_3, .inl (kA 1, 400, .inl (fun _ => 0)))] := hD
  refine va_putF (D := D) (ci := 2) (v := .ref q_3) (ty := (tyX3 2)) (C := RX3) (T := TX3) (N := 6) hx hb hts n_X3_init_X3 tyX3 tyX3_ok nmX3 hown hK hP hD hS 0 rfl rfl 2 (by decide) (wAt hts 8 (w := .fieldLink RX3 18 "FluxBench$Surface" "weakness" "[Z") rfl) (fun _ h9 => h9) rfl hnm rfl (by decide +kernel) rfl rfl (Nat.le_of_ble_eq_true rfl) dX3_init_28 (fun H locs hP hD hS => ?_)
  have hP : va_P D vwCl [(h0, .inr (2, [.ref q_1, .ref q_2, .ref q_3, .null, .int 0, .int 0])), (q_1, .inl (kA 0, 400, .inl (fun _ => 0))), (q_2, .inl (kA 0, 400, .inl (fun _ => 0))), (q_3, .inl (kA 1, 400, .inl (fun _ => 0)))] H := hP
  have hD : va_D A [(h0, .inr (2, [.ref q_1, .ref q_2, .ref q_3, .null, .int 0, .int 0])), (q_1, .inl (kA 0, 400, .inl (fun _ => 0))), (q_2, .inl (kA 0, 400, .inl (fun _ => 0))), (q_3, .inl (kA 1, 400, .inl (fun _ => 0)))] := hD
  refine lv_aload_n hx hb dX3_init_31 rfl (lv_at hl 0 rfl) ?_
  refine lv_sipush (v := nI 400) hx hb dX3_init_32 (by decide) ?_
  refine va_newa (atype := .int) (ty := .int) (N' := 400) (a0 := (400, .inl (fun _ => 0))) hx hb (wAt hts 4 (w := .arrayClass .int) rfl) rfl hK hP hD hS hA (fun _ => rfl) (nI_pos (n := 400) (by decide)) (nI_clamp (n := 400) (by decide)) (by decide) (Nat.le_of_ble_eq_true rfl) (Nat.le_of_ble_eq_true rfl) dX3_init_35 (fun q_4 cA H hK hP hD hS => ?_)
  obtain rfl : cA = kA 0 := tyEq hK 3 0 rfl rfl
  have hK : va_K D vwCl (tyL kA) s := hK.sub [0, 1, 2] rfl
  have hP : va_P D vwCl [(h0, .inr (2, [.ref q_1, .ref q_2, .ref q_3, .null, .int 0, .int 0])), (q_1, .inl (kA 0, 400, .inl (fun _ => 0))), (q_2, .inl (kA 0, 400, .inl (fun _ => 0))), (q_3, .inl (kA 1, 400, .inl (fun _ => 0))), (q_4, .inl (kA 0, 400, .inl (fun _ => 0)))] H := hP
  have hD : va_D A [(h0, .inr (2, [.ref q_1, .ref q_2, .ref q_3, .null, .int 0, .int 0])), (q_1, .inl (kA 0, 400, .inl (fun _ => 0))), (q_2, .inl (kA 0, 400, .inl (fun _ => 0))), (q_3, .inl (kA 1, 400, .inl (fun _ => 0))), (q_4, .inl (kA 0, 400, .inl (fun _ => 0)))] := hD
  refine va_putF (D := D) (ci := 2) (v := .ref q_4) (ty := (tyX3 3)) (C := RX3) (T := TX3) (N := 6) hx hb hts n_X3_init_X3 tyX3 tyX3_ok nmX3 hown hK hP hD hS 0 rfl rfl 3 (by decide) (wAt hts 9 (w := .fieldLink RX3 22 "FluxBench$Surface" "dirtiness" "[I") rfl) (fun _ h9 => h9) rfl hnm rfl (by decide +kernel) rfl rfl (Nat.le_of_ble_eq_true rfl) dX3_init_37 (fun H locs hP hD hS => ?_)
  have hP : va_P D vwCl [(h0, .inr (2, [.ref q_1, .ref q_2, .ref q_3, .ref q_4, .int 0, .int 0])), (q_1, .inl (kA 0, 400, .inl (fun _ => 0))), (q_2, .inl (kA 0, 400, .inl (fun _ => 0))), (q_3, .inl (kA 1, 400, .inl (fun _ => 0))), (q_4, .inl (kA 0, 400, .inl (fun _ => 0)))] H := hP
  have hD : va_D A [(h0, .inr (2, [.ref q_1, .ref q_2, .ref q_3, .ref q_4, .int 0, .int 0])), (q_1, .inl (kA 0, 400, .inl (fun _ => 0))), (q_2, .inl (kA 0, 400, .inl (fun _ => 0))), (q_3, .inl (kA 1, 400, .inl (fun _ => 0))), (q_4, .inl (kA 0, 400, .inl (fun _ => 0)))] := hD
  refine lv_aload_n hx hb dX3_init_40 rfl (lv_at hl 0 rfl) ?_
  refine lv_iconst (v := nI 0) hx hb dX3_init_41 (by decide) ?_
  refine va_put (D := D) (ci := 2) (v := .int (nI 0)) (ty := .int) (C := RX3) (T := TX3) (N := 6) hx hb hts n_X3_init_X3 tyX3 tyX3_ok nmX3 hown hK hP hD hS 0 rfl rfl 4 (by decide) (wAt hts 10 (w := .fieldLink RX3 25 "FluxBench$Surface" "length" "I") rfl) (fun _ h9 => h9) rfl (by decide +kernel) rfl rfl (Nat.le_of_ble_eq_true rfl) dX3_init_42 (fun H locs hP hD hS => ?_)
  have hP : va_P D vwCl [(h0, .inr (2, [.ref q_1, .ref q_2, .ref q_3, .ref q_4, .int (nI 0), .int 0])), (q_1, .inl (kA 0, 400, .inl (fun _ => 0))), (q_2, .inl (kA 0, 400, .inl (fun _ => 0))), (q_3, .inl (kA 1, 400, .inl (fun _ => 0))), (q_4, .inl (kA 0, 400, .inl (fun _ => 0)))] H := hP
  have hD : va_D A [(h0, .inr (2, [.ref q_1, .ref q_2, .ref q_3, .ref q_4, .int (nI 0), .int 0])), (q_1, .inl (kA 0, 400, .inl (fun _ => 0))), (q_2, .inl (kA 0, 400, .inl (fun _ => 0))), (q_3, .inl (kA 1, 400, .inl (fun _ => 0))), (q_4, .inl (kA 0, 400, .inl (fun _ => 0)))] := hD
  refine lv_aload_n hx hb dX3_init_45 rfl (lv_at hl 0 rfl) ?_
  refine lv_iconst (v := nI 0) hx hb dX3_init_46 (by decide) ?_
  refine va_put (D := D) (ci := 2) (v := .int (nI 0)) (ty := .int) (C := RX3) (T := TX3) (N := 6) hx hb hts n_X3_init_X3 tyX3 tyX3_ok nmX3 hown hK hP hD hS 0 rfl rfl 5 (by decide) (wAt hts 11 (w := .fieldLink RX3 29 "FluxBench$Surface" "bitAhead" "I") rfl) (fun _ h9 => h9) rfl (by decide +kernel) rfl rfl (Nat.le_of_ble_eq_true rfl) dX3_init_47 (fun H locs hP hD hS => ?_)
  have hP : va_P D vwCl [(h0, .inr (2, [.ref q_1, .ref q_2, .ref q_3, .ref q_4, .int (nI 0), .int (nI 0)])), (q_1, .inl (kA 0, 400, .inl (fun _ => 0))), (q_2, .inl (kA 0, 400, .inl (fun _ => 0))), (q_3, .inl (kA 1, 400, .inl (fun _ => 0))), (q_4, .inl (kA 0, 400, .inl (fun _ => 0)))] H := hP
  have hD : va_D A [(h0, .inr (2, [.ref q_1, .ref q_2, .ref q_3, .ref q_4, .int (nI 0), .int (nI 0)])), (q_1, .inl (kA 0, 400, .inl (fun _ => 0))), (q_2, .inl (kA 0, 400, .inl (fun _ => 0))), (q_3, .inl (kA 1, 400, .inl (fun _ => 0))), (q_4, .inl (kA 0, 400, .inl (fun _ => 0)))] := hD
  exact endV hx hb hr hlocks hK hP hD hS (⟨q_1, q_2, q_3, q_4, rfl⟩) (Nat.le_of_ble_eq_true rfl) (Nat.le_of_ble_eq_true rfl) dX3_init_50

def wq_X3_empty : List Cond := .code yX3_empty cX3_empty 1 none :: (([.fieldLink RX3 25 "FluxBench$Surface" "length" "I", .fieldLink RX3 29 "FluxBench$Surface" "bitAhead" "I"] : List Cond) ++ (u_ws RX3 TX3 6 ++ ([] : List Cond)))
theorem gd_X3_empty : wq_X3_empty.all goodWord = true := by decide +kernel
theorem n_X3_empty_X3 : ∀ w ∈ u_ws RX3 TX3 6, w ∈ wq_X3_empty := fun w h => List.mem_cons_of_mem _ (List.mem_append_right _ (List.mem_append_left _ h))
set_option maxHeartbeats 4000000 in
set_option maxRecDepth 100000 in
theorem c_X3_empty (l : Launch) (D : va_G) (kA : Nat → ClassId) (z : Nat) (h0 a1 a2 a3 a4 : Nat) (ln ah : Int32)  : mV l D (tyL kA) z yX3_empty wq_X3_empty ({ frames := 0, cells := 0, slots := 0, locals := 0 }) [.ref h0] [(h0, .inr (2, [.ref a1, .ref a2, .ref a3, .ref a4, .int ln, .int ah]))] (fun w => w = [(h0, .inr (2, [.ref a1, .ref a2, .ref a3, .ref a4, .int (nI 0), .int (nI 0)]))]) := by
  refine ofV (cc := cX3_empty) (maxL := 1) RX3 rfl (by decide +kernel) rfl (Nat.le_of_ble_eq_true rfl) ?_
  intro p e s m args below meth c A ls hnm hE
  obtain ⟨hx, hb, hr, hml, hts, hown, hlocks, hA, hS, hP, hK, hD, hG, hl⟩ := hE
  have hl : lv_has ls 1 [(0, .ref h0)] := hl
  have hH : s.heap = s.heap := rfl
  refine lv_aload_n hx hb dX3_empty_0 rfl (lv_at hl 0 rfl) ?_
  refine lv_iconst (v := nI 0) hx hb dX3_empty_1 (by decide) ?_
  refine va_put (D := D) (ci := 2) (v := .int (nI 0)) (ty := .int) (C := RX3) (T := TX3) (N := 6) hx hb hts n_X3_empty_X3 tyX3 tyX3_ok nmX3 hown hK hP hD hS 0 rfl rfl 4 (by decide) (wAt hts 1 (w := .fieldLink RX3 25 "FluxBench$Surface" "length" "I") rfl) (fun _ h9 => h9) rfl (by decide +kernel) rfl rfl (Nat.le_of_ble_eq_true rfl) dX3_empty_2 (fun H locs hP hD hS => ?_)
  have hP : va_P D vwCl [(h0, .inr (2, [.ref a1, .ref a2, .ref a3, .ref a4, .int (nI 0), .int ah]))] H := hP
  have hD : va_D A [(h0, .inr (2, [.ref a1, .ref a2, .ref a3, .ref a4, .int (nI 0), .int ah]))] := hD
  refine lv_aload_n hx hb dX3_empty_5 rfl (lv_at hl 0 rfl) ?_
  refine lv_iconst (v := nI 0) hx hb dX3_empty_6 (by decide) ?_
  refine va_put (D := D) (ci := 2) (v := .int (nI 0)) (ty := .int) (C := RX3) (T := TX3) (N := 6) hx hb hts n_X3_empty_X3 tyX3 tyX3_ok nmX3 hown hK hP hD hS 0 rfl rfl 5 (by decide) (wAt hts 2 (w := .fieldLink RX3 29 "FluxBench$Surface" "bitAhead" "I") rfl) (fun _ h9 => h9) rfl (by decide +kernel) rfl rfl (Nat.le_of_ble_eq_true rfl) dX3_empty_7 (fun H locs hP hD hS => ?_)
  have hP : va_P D vwCl [(h0, .inr (2, [.ref a1, .ref a2, .ref a3, .ref a4, .int (nI 0), .int (nI 0)]))] H := hP
  have hD : va_D A [(h0, .inr (2, [.ref a1, .ref a2, .ref a3, .ref a4, .int (nI 0), .int (nI 0)]))] := hD
  exact endV hx hb hr hlocks hK hP hD hS (rfl) (Nat.le_of_ble_eq_true rfl) (Nat.le_of_ble_eq_true rfl) dX3_empty_10

def wq_X3_hasRoomFor : List Cond := .code yX3_hasRoomFor cX3_hasRoomFor 2 (some .boolean) :: (([.fieldLink RX3 25 "FluxBench$Surface" "length" "I"] : List Cond) ++ (u_ws RX3 TX3 6 ++ ([] : List Cond)))
theorem gd_X3_hasRoomFor : wq_X3_hasRoomFor.all goodWord = true := by decide +kernel
theorem n_X3_hasRoomFor_X3 : ∀ w ∈ u_ws RX3 TX3 6, w ∈ wq_X3_hasRoomFor := fun w h => List.mem_cons_of_mem _ (List.mem_append_right _ (List.mem_append_left _ h))
set_option maxHeartbeats 4000000 in
set_option maxRecDepth 100000 in
theorem c_X3_hasRoomFor (l : Launch) (D : va_G) (kA : Nat → ClassId) (z : Nat) (h0 a1 a2 a3 a4 n : Nat) (ah : Int32) (k : Nat) (h1 : n ≤ 400) (hk : k ≤ 400) : mI l D (tyL kA) z yX3_hasRoomFor wq_X3_hasRoomFor ({ frames := 0, cells := 0, slots := 0, locals := 0 }) [.ref h0, .int (nI k)] [(h0, .inr (2, [.ref a1, .ref a2, .ref a3, .ref a4, .int (nI n), .int ah]))] (fun r w => ∃ (b : Nat), w = [(h0, .inr (2, [.ref a1, .ref a2, .ref a3, .ref a4, .int (nI n), .int ah]))] ∧ (b ≤ 1) ∧ (r = nI b) ∧ (b = 1 ↔ n + k ≤ 400)) := by
  refine ofI (cc := cX3_hasRoomFor) (maxL := 2) RX3 rfl (by decide +kernel) rfl (Nat.le_of_ble_eq_true rfl) ?_
  intro p e s m args below meth c A ls hE
  obtain ⟨hx, hb, hr, hml, hts, hown, hlocks, hA, hS, hP, hK, hD, hG, hl⟩ := hE
  have hl : lv_has ls 2 [(0, .ref h0), (1, .int (nI k))] := hl
  have hH : s.heap = s.heap := rfl
  refine lv_iload_n hx hb dX3_hasRoomFor_0 rfl (lv_at hl 1 rfl) ?_
  refine lv_sipush (v := nI 400) hx hb dX3_hasRoomFor_1 (by decide) ?_
  refine lv_aload_n hx hb dX3_hasRoomFor_4 rfl (lv_at hl 0 rfl) ?_
  refine va_get (D := D) (ci := 2) (v := .int (nI n)) (C := RX3) (T := TX3) (N := 6) hx hb hts n_X3_hasRoomFor_X3 hown hK hP 0 rfl rfl 4 (by decide) (wAt hts 1 (w := .fieldLink RX3 25 "FluxBench$Surface" "length" "I") rfl) (fun _ h9 => h9) rfl dX3_hasRoomFor_5 ?_
  refine lv_isub hx hb dX3_hasRoomFor_8 ?_
  rw [pk_sub (a := 400) (b := n) (by omega)]
  refine lv_icmp_gt (tgt := 16) hx hb dX3_hasRoomFor_9 (by decide) (fun c9 => ?_) (fun c9 => ?_)
  ·
    rw [qlt (a := (400 - n)) (b := k) (by omega) (by omega)] at c9
    refine lv_iconst (v := nI 0) hx hb dX3_hasRoomFor_16 (by decide) ?_
    exact endZ hx hb hr hlocks (rfl) hK hP hD hS (⟨0, rfl, by first | rfl | assumption | omega | (rw [if_pos (by omega)]; first | done | rfl) | (rw [if_neg (by omega)]; first | done | rfl), by first | rfl | assumption | omega | (rw [if_pos (by omega)]; first | done | rfl) | (rw [if_neg (by omega)]; first | done | rfl), by omega⟩) (Nat.le_of_ble_eq_true rfl) (Nat.le_of_ble_eq_true rfl) dX3_hasRoomFor_17
  ·
    rw [qlt (a := (400 - n)) (b := k) (by omega) (by omega)] at c9
    refine lv_iconst (v := nI 1) hx hb dX3_hasRoomFor_12 (by decide) ?_
    refine lv_goto (tgt := 17) hx hb dX3_hasRoomFor_13 (by decide) ?_
    exact endZ hx hb hr hlocks (rfl) hK hP hD hS (⟨1, rfl, by first | rfl | assumption | omega | (rw [if_pos (by omega)]; first | done | rfl) | (rw [if_neg (by omega)]; first | done | rfl), by first | rfl | assumption | omega | (rw [if_pos (by omega)]; first | done | rfl) | (rw [if_neg (by omega)]; first | done | rfl), by omega⟩) (Nat.le_of_ble_eq_true rfl) (Nat.le_of_ble_eq_true rfl) dX3_hasRoomFor_17

def wq_X3_hasPlace_in : List Cond := .code yX3_hasPlace cX3_hasPlace 2 (some .boolean) :: (([.fieldLink RX3 25 "FluxBench$Surface" "length" "I"] : List Cond) ++ (u_ws RX3 TX3 6 ++ ([] : List Cond)))
theorem gd_X3_hasPlace_in : wq_X3_hasPlace_in.all goodWord = true := by decide +kernel
theorem n_X3_hasPlace_in_X3 : ∀ w ∈ u_ws RX3 TX3 6, w ∈ wq_X3_hasPlace_in := fun w h => List.mem_cons_of_mem _ (List.mem_append_right _ (List.mem_append_left _ h))
set_option maxHeartbeats 4000000 in
set_option maxRecDepth 100000 in
theorem c_X3_hasPlace_in (l : Launch) (D : va_G) (kA : Nat → ClassId) (z : Nat) (h0 a1 a2 a3 a4 n : Nat) (ah : Int32) (i : Nat) (h1 : n ≤ 400) (hi : i < n) : mI l D (tyL kA) z yX3_hasPlace wq_X3_hasPlace_in ({ frames := 0, cells := 0, slots := 0, locals := 0 }) [.ref h0, .int (nI i)] [(h0, .inr (2, [.ref a1, .ref a2, .ref a3, .ref a4, .int (nI n), .int ah]))] (fun r w => w = [(h0, .inr (2, [.ref a1, .ref a2, .ref a3, .ref a4, .int (nI n), .int ah]))] ∧ (r = nI 1)) := by
  refine ofI (cc := cX3_hasPlace) (maxL := 2) RX3 rfl (by decide +kernel) rfl (Nat.le_of_ble_eq_true rfl) ?_
  intro p e s m args below meth c A ls hE
  obtain ⟨hx, hb, hr, hml, hts, hown, hlocks, hA, hS, hP, hK, hD, hG, hl⟩ := hE
  have hl : lv_has ls 2 [(0, .ref h0), (1, .int (nI i))] := hl
  have hH : s.heap = s.heap := rfl
  refine lv_iload_n hx hb dX3_hasPlace_0 rfl (lv_at hl 1 rfl) ?_
  refine lv_if_lt (tgt := 23) hx hb dX3_hasPlace_1 (by decide) (fun c1 => absurd c1 (nI_pos (n := i) (by omega))) (fun _ => ?_)
  refine lv_iload_n hx hb dX3_hasPlace_4 rfl (lv_at hl 1 rfl) ?_
  refine lv_aload_n hx hb dX3_hasPlace_5 rfl (lv_at hl 0 rfl) ?_
  refine va_get (D := D) (ci := 2) (v := .int (nI n)) (C := RX3) (T := TX3) (N := 6) hx hb hts n_X3_hasPlace_in_X3 hown hK hP 0 rfl rfl 4 (by decide) (wAt hts 1 (w := .fieldLink RX3 25 "FluxBench$Surface" "length" "I") rfl) (fun _ h9 => h9) rfl dX3_hasPlace_6 ?_
  refine lv_icmp_ge (tgt := 23) hx hb dX3_hasPlace_9 (by decide) (fun c9 => False.elim (by rw [qle (a := n) (b := i) (by omega) (by omega)] at c9; omega)) (fun _ => ?_)
  refine lv_iload_n hx hb dX3_hasPlace_12 rfl (lv_at hl 1 rfl) ?_
  refine lv_sipush (v := nI 400) hx hb dX3_hasPlace_13 (by decide) ?_
  refine lv_icmp_ge (tgt := 23) hx hb dX3_hasPlace_16 (by decide) (fun c16 => False.elim (by rw [qle (a := 400) (b := i) (by omega) (by omega)] at c16; omega)) (fun _ => ?_)
  refine lv_iconst (v := nI 1) hx hb dX3_hasPlace_19 (by decide) ?_
  refine lv_goto (tgt := 24) hx hb dX3_hasPlace_20 (by decide) ?_
  exact endZ hx hb hr hlocks (rfl) hK hP hD hS (⟨rfl, by first | rfl | assumption | omega | (rw [if_pos (by omega)]; first | done | rfl) | (rw [if_neg (by omega)]; first | done | rfl)⟩) (Nat.le_of_ble_eq_true rfl) (Nat.le_of_ble_eq_true rfl) dX3_hasPlace_24

def wq_X3_bitAt_in : List Cond := .code yX3_bitAt cX3_bitAt 2 (some .int) :: (([.methodLink RX3 53 yX3_hasPlace, .instanceMethod yX3_hasPlace, .selects RX3 yX3_hasPlace yX3_hasPlace, .initialized RX3, .fieldLink RX3 9 "FluxBench$Surface" "bits" "[I"] : List Cond) ++ (u_ws RX3 TX3 6 ++ (wq_X3_hasPlace_in ++ ([] : List Cond))))
theorem gd_X3_bitAt_in : wq_X3_bitAt_in.all goodWord = true := by decide +kernel
theorem n_X3_bitAt_in_X3 : ∀ w ∈ u_ws RX3 TX3 6, w ∈ wq_X3_bitAt_in := fun w h => List.mem_cons_of_mem _ (List.mem_append_right _ (List.mem_append_left _ h))
theorem h_X3_bitAt_in_0 : GoodIn wq_X3_bitAt_in (wsV RX3 53 RX3 yX3_hasPlace wq_X3_hasPlace_in) := goodIn_app (goodIn_r _ [1, 2, 3, 4] (by decide +kernel) (by decide +kernel)) (goodIn_sub (fun w h => List.mem_cons_of_mem _ (List.mem_append_right _ (List.mem_append_right _ (List.mem_append_left _ h)))) gd_X3_hasPlace_in)
set_option maxHeartbeats 4000000 in
set_option maxRecDepth 100000 in
theorem c_X3_bitAt_in (l : Launch) (D : va_G) (kA : Nat → ClassId) (z : Nat) (h0 a1 a2 a3 a4 n : Nat) (ah : Int32) (i : Nat) (fb : Nat → Int32) (h1 : n ≤ 400) (hi : i < n) : mI l D (tyL kA) z yX3_bitAt wq_X3_bitAt_in ({ frames := 1, cells := 0, slots := 0, locals := 21 }) [.ref h0, .int (nI i)] [(h0, .inr (2, [.ref a1, .ref a2, .ref a3, .ref a4, .int (nI n), .int ah])), (a1, .inl (kA 0, 400, .inl fb))] (fun r w => w = [(h0, .inr (2, [.ref a1, .ref a2, .ref a3, .ref a4, .int (nI n), .int ah])), (a1, .inl (kA 0, 400, .inl fb))] ∧ (r = fb i)) := by
  refine ofI (cc := cX3_bitAt) (maxL := 2) RX3 rfl (by decide +kernel) rfl (Nat.le_of_ble_eq_true rfl) ?_
  intro p e s m args below meth c A ls hE
  obtain ⟨hx, hb, hr, hml, hts, hown, hlocks, hA, hS, hP, hK, hD, hG, hl⟩ := hE
  have hl : lv_has ls 2 [(0, .ref h0), (1, .int (nI i))] := hl
  have hH : s.heap = s.heap := rfl
  refine lv_aload_n hx hb dX3_bitAt_0 rfl (lv_at hl 0 rfl) ?_
  refine lv_iload_n hx hb dX3_bitAt_1 rfl (lv_at hl 1 rfl) ?_
  have hF := va_free (wc := [(h0, .inr (2, [.ref a1, .ref a2, .ref a3, .ref a4, .int (nI n), .int ah]))]) hD hS hA [0] rfl
  refine va_calli (va_runV (As := [.int (nI i)]) (rest := []) ⟨hx, hb, hml, hown, hts⟩ (c_X3_hasPlace_in l D kA z h0 a1 a2 a3 a4 n ah i (by first | assumption | omega) (by first | assumption | omega) _) (cwV 1 hts h_X3_bitAt_in_0 rfl rfl rfl (by decide +kernel) ⟨Nat.le_of_ble_eq_true rfl, Nat.le_of_ble_eq_true rfl⟩) (fPv hK hP hD hS hG hF [0] (by decide) rfl 0 2 rfl rfl rfl) rfl rfl hl.1 rfl (lv_room (Nat.le_of_ble_eq_true rfl)) dX3_bitAt_2 ⟨Nat.le_of_ble_eq_true rfl, Nat.le_of_ble_eq_true rfl⟩) hS (fun q _ h => hF q h) hF (fun r_1 w1 t H locs ht hvm hw hB hz1 hk1 hS => ?_)
  obtain ⟨hP, hD⟩ := fJ (wr := [(a1, .inl (kA 0, 400, .inl fb))]) hP hD [0] [1] rfl rfl (by decide) (by decide) hk1 hF ht hB
  try dsimp only at hw
  obtain ⟨rfl, e_1⟩ := hw
  replace e_1 := e_1.symm
  subst e_1
  have hP : va_P D vwCl [(a1, .inl (kA 0, 400, .inl fb)), (h0, .inr (2, [.ref a1, .ref a2, .ref a3, .ref a4, .int (nI n), .int ah]))] H := hP
  have hD : va_D A [(a1, .inl (kA 0, 400, .inl fb)), (h0, .inr (2, [.ref a1, .ref a2, .ref a3, .ref a4, .int (nI n), .int ah]))] := hD
  refine lv_if_eq (tgt := 17) hx hb dX3_bitAt_5 (by decide) (fun c5 => absurd c5 (by decide)) (fun _ => ?_)
  refine lv_aload_n hx hb dX3_bitAt_8 rfl (lv_at hl 0 rfl) ?_
  refine va_get (D := D) (ci := 2) (v := .ref a1) (C := RX3) (T := TX3) (N := 6) hx hb hts n_X3_bitAt_in_X3 hown hK hP 1 rfl rfl 0 (by decide) (wAt hts 5 (w := .fieldLink RX3 9 "FluxBench$Surface" "bits" "[I") rfl) (fun _ h9 => h9) rfl dX3_bitAt_9 ?_
  refine lv_iload_n hx hb dX3_bitAt_12 rfl (lv_at hl 1 rfl) ?_
  refine va_iald hx hb hK hP 0 0 rfl rfl (vp_in_nI (n := i) (by omega) (by decide)) dX3_bitAt_13 ?_
  rw [nI_clamp (n := i) (by omega)]
  refine lv_goto (tgt := 18) hx hb dX3_bitAt_14 (by decide) ?_
  have hP := hP.sub (ws' := [(h0, .inr (2, [.ref a1, .ref a2, .ref a3, .ref a4, .int (nI n), .int ah])), (a1, .inl (kA 0, 400, .inl fb))]) [1, 0] rfl
  have hD := hD.sub (ws' := [(h0, .inr (2, [.ref a1, .ref a2, .ref a3, .ref a4, .int (nI n), .int ah])), (a1, .inl (kA 0, 400, .inl fb))]) [1, 0] (by decide) rfl
  exact endI hx hb hr hlocks hK hP hD hS (⟨rfl, by first | rfl | assumption | omega | (rw [if_pos (by omega)]; first | done | rfl) | (rw [if_neg (by omega)]; first | done | rfl)⟩) (Nat.le_of_ble_eq_true rfl) (Nat.le_of_ble_eq_true rfl) dX3_bitAt_18

def wq_X3_widthAt_in : List Cond := .code yX3_widthAt cX3_widthAt 2 (some .int) :: (([.methodLink RX3 53 yX3_hasPlace, .instanceMethod yX3_hasPlace, .selects RX3 yX3_hasPlace yX3_hasPlace, .initialized RX3, .fieldLink RX3 15 "FluxBench$Surface" "widths" "[I"] : List Cond) ++ (u_ws RX3 TX3 6 ++ (wq_X3_hasPlace_in ++ ([] : List Cond))))
theorem gd_X3_widthAt_in : wq_X3_widthAt_in.all goodWord = true := by decide +kernel
theorem n_X3_widthAt_in_X3 : ∀ w ∈ u_ws RX3 TX3 6, w ∈ wq_X3_widthAt_in := fun w h => List.mem_cons_of_mem _ (List.mem_append_right _ (List.mem_append_left _ h))
theorem h_X3_widthAt_in_0 : GoodIn wq_X3_widthAt_in (wsV RX3 53 RX3 yX3_hasPlace wq_X3_hasPlace_in) := goodIn_app (goodIn_r _ [1, 2, 3, 4] (by decide +kernel) (by decide +kernel)) (goodIn_sub (fun w h => List.mem_cons_of_mem _ (List.mem_append_right _ (List.mem_append_right _ (List.mem_append_left _ h)))) gd_X3_hasPlace_in)
set_option maxHeartbeats 4000000 in
set_option maxRecDepth 100000 in
theorem c_X3_widthAt_in (l : Launch) (D : va_G) (kA : Nat → ClassId) (z : Nat) (h0 a1 a2 a3 a4 n : Nat) (ah : Int32) (i : Nat) (fw : Nat → Int32) (h1 : n ≤ 400) (hi : i < n) : mI l D (tyL kA) z yX3_widthAt wq_X3_widthAt_in ({ frames := 1, cells := 0, slots := 0, locals := 21 }) [.ref h0, .int (nI i)] [(h0, .inr (2, [.ref a1, .ref a2, .ref a3, .ref a4, .int (nI n), .int ah])), (a2, .inl (kA 0, 400, .inl fw))] (fun r w => w = [(h0, .inr (2, [.ref a1, .ref a2, .ref a3, .ref a4, .int (nI n), .int ah])), (a2, .inl (kA 0, 400, .inl fw))] ∧ (r = fw i)) := by
  refine ofI (cc := cX3_widthAt) (maxL := 2) RX3 rfl (by decide +kernel) rfl (Nat.le_of_ble_eq_true rfl) ?_
  intro p e s m args below meth c A ls hE
  obtain ⟨hx, hb, hr, hml, hts, hown, hlocks, hA, hS, hP, hK, hD, hG, hl⟩ := hE
  have hl : lv_has ls 2 [(0, .ref h0), (1, .int (nI i))] := hl
  have hH : s.heap = s.heap := rfl
  refine lv_aload_n hx hb dX3_widthAt_0 rfl (lv_at hl 0 rfl) ?_
  refine lv_iload_n hx hb dX3_widthAt_1 rfl (lv_at hl 1 rfl) ?_
  have hF := va_free (wc := [(h0, .inr (2, [.ref a1, .ref a2, .ref a3, .ref a4, .int (nI n), .int ah]))]) hD hS hA [0] rfl
  refine va_calli (va_runV (As := [.int (nI i)]) (rest := []) ⟨hx, hb, hml, hown, hts⟩ (c_X3_hasPlace_in l D kA z h0 a1 a2 a3 a4 n ah i (by first | assumption | omega) (by first | assumption | omega) _) (cwV 1 hts h_X3_widthAt_in_0 rfl rfl rfl (by decide +kernel) ⟨Nat.le_of_ble_eq_true rfl, Nat.le_of_ble_eq_true rfl⟩) (fPv hK hP hD hS hG hF [0] (by decide) rfl 0 2 rfl rfl rfl) rfl rfl hl.1 rfl (lv_room (Nat.le_of_ble_eq_true rfl)) dX3_widthAt_2 ⟨Nat.le_of_ble_eq_true rfl, Nat.le_of_ble_eq_true rfl⟩) hS (fun q _ h => hF q h) hF (fun r_1 w1 t H locs ht hvm hw hB hz1 hk1 hS => ?_)
  obtain ⟨hP, hD⟩ := fJ (wr := [(a2, .inl (kA 0, 400, .inl fw))]) hP hD [0] [1] rfl rfl (by decide) (by decide) hk1 hF ht hB
  try dsimp only at hw
  obtain ⟨rfl, e_1⟩ := hw
  replace e_1 := e_1.symm
  subst e_1
  have hP : va_P D vwCl [(a2, .inl (kA 0, 400, .inl fw)), (h0, .inr (2, [.ref a1, .ref a2, .ref a3, .ref a4, .int (nI n), .int ah]))] H := hP
  have hD : va_D A [(a2, .inl (kA 0, 400, .inl fw)), (h0, .inr (2, [.ref a1, .ref a2, .ref a3, .ref a4, .int (nI n), .int ah]))] := hD
  refine lv_if_eq (tgt := 17) hx hb dX3_widthAt_5 (by decide) (fun c5 => absurd c5 (by decide)) (fun _ => ?_)
  refine lv_aload_n hx hb dX3_widthAt_8 rfl (lv_at hl 0 rfl) ?_
  refine va_get (D := D) (ci := 2) (v := .ref a2) (C := RX3) (T := TX3) (N := 6) hx hb hts n_X3_widthAt_in_X3 hown hK hP 1 rfl rfl 1 (by decide) (wAt hts 5 (w := .fieldLink RX3 15 "FluxBench$Surface" "widths" "[I") rfl) (fun _ h9 => h9) rfl dX3_widthAt_9 ?_
  refine lv_iload_n hx hb dX3_widthAt_12 rfl (lv_at hl 1 rfl) ?_
  refine va_iald hx hb hK hP 0 0 rfl rfl (vp_in_nI (n := i) (by omega) (by decide)) dX3_widthAt_13 ?_
  rw [nI_clamp (n := i) (by omega)]
  refine lv_goto (tgt := 18) hx hb dX3_widthAt_14 (by decide) ?_
  have hP := hP.sub (ws' := [(h0, .inr (2, [.ref a1, .ref a2, .ref a3, .ref a4, .int (nI n), .int ah])), (a2, .inl (kA 0, 400, .inl fw))]) [1, 0] rfl
  have hD := hD.sub (ws' := [(h0, .inr (2, [.ref a1, .ref a2, .ref a3, .ref a4, .int (nI n), .int ah])), (a2, .inl (kA 0, 400, .inl fw))]) [1, 0] (by decide) rfl
  exact endI hx hb hr hlocks hK hP hD hS (⟨rfl, by first | rfl | assumption | omega | (rw [if_pos (by omega)]; first | done | rfl) | (rw [if_neg (by omega)]; first | done | rfl)⟩) (Nat.le_of_ble_eq_true rfl) (Nat.le_of_ble_eq_true rfl) dX3_widthAt_18

def wq_X3_dirtAt_in : List Cond := .code yX3_dirtAt cX3_dirtAt 2 (some .int) :: (([.methodLink RX3 53 yX3_hasPlace, .instanceMethod yX3_hasPlace, .selects RX3 yX3_hasPlace yX3_hasPlace, .initialized RX3, .fieldLink RX3 22 "FluxBench$Surface" "dirtiness" "[I"] : List Cond) ++ (u_ws RX3 TX3 6 ++ (wq_X3_hasPlace_in ++ ([] : List Cond))))
theorem gd_X3_dirtAt_in : wq_X3_dirtAt_in.all goodWord = true := by decide +kernel
theorem n_X3_dirtAt_in_X3 : ∀ w ∈ u_ws RX3 TX3 6, w ∈ wq_X3_dirtAt_in := fun w h => List.mem_cons_of_mem _ (List.mem_append_right _ (List.mem_append_left _ h))
theorem h_X3_dirtAt_in_0 : GoodIn wq_X3_dirtAt_in (wsV RX3 53 RX3 yX3_hasPlace wq_X3_hasPlace_in) := goodIn_app (goodIn_r _ [1, 2, 3, 4] (by decide +kernel) (by decide +kernel)) (goodIn_sub (fun w h => List.mem_cons_of_mem _ (List.mem_append_right _ (List.mem_append_right _ (List.mem_append_left _ h)))) gd_X3_hasPlace_in)
set_option maxHeartbeats 4000000 in
set_option maxRecDepth 100000 in
theorem c_X3_dirtAt_in (l : Launch) (D : va_G) (kA : Nat → ClassId) (z : Nat) (h0 a1 a2 a3 a4 n : Nat) (ah : Int32) (i : Nat) (fd : Nat → Int32) (h1 : n ≤ 400) (hi : i < n) : mI l D (tyL kA) z yX3_dirtAt wq_X3_dirtAt_in ({ frames := 1, cells := 0, slots := 0, locals := 21 }) [.ref h0, .int (nI i)] [(h0, .inr (2, [.ref a1, .ref a2, .ref a3, .ref a4, .int (nI n), .int ah])), (a4, .inl (kA 0, 400, .inl fd))] (fun r w => w = [(h0, .inr (2, [.ref a1, .ref a2, .ref a3, .ref a4, .int (nI n), .int ah])), (a4, .inl (kA 0, 400, .inl fd))] ∧ (r = fd i)) := by
  refine ofI (cc := cX3_dirtAt) (maxL := 2) RX3 rfl (by decide +kernel) rfl (Nat.le_of_ble_eq_true rfl) ?_
  intro p e s m args below meth c A ls hE
  obtain ⟨hx, hb, hr, hml, hts, hown, hlocks, hA, hS, hP, hK, hD, hG, hl⟩ := hE
  have hl : lv_has ls 2 [(0, .ref h0), (1, .int (nI i))] := hl
  have hH : s.heap = s.heap := rfl
  refine lv_aload_n hx hb dX3_dirtAt_0 rfl (lv_at hl 0 rfl) ?_
  refine lv_iload_n hx hb dX3_dirtAt_1 rfl (lv_at hl 1 rfl) ?_
  have hF := va_free (wc := [(h0, .inr (2, [.ref a1, .ref a2, .ref a3, .ref a4, .int (nI n), .int ah]))]) hD hS hA [0] rfl
  refine va_calli (va_runV (As := [.int (nI i)]) (rest := []) ⟨hx, hb, hml, hown, hts⟩ (c_X3_hasPlace_in l D kA z h0 a1 a2 a3 a4 n ah i (by first | assumption | omega) (by first | assumption | omega) _) (cwV 1 hts h_X3_dirtAt_in_0 rfl rfl rfl (by decide +kernel) ⟨Nat.le_of_ble_eq_true rfl, Nat.le_of_ble_eq_true rfl⟩) (fPv hK hP hD hS hG hF [0] (by decide) rfl 0 2 rfl rfl rfl) rfl rfl hl.1 rfl (lv_room (Nat.le_of_ble_eq_true rfl)) dX3_dirtAt_2 ⟨Nat.le_of_ble_eq_true rfl, Nat.le_of_ble_eq_true rfl⟩) hS (fun q _ h => hF q h) hF (fun r_1 w1 t H locs ht hvm hw hB hz1 hk1 hS => ?_)
  obtain ⟨hP, hD⟩ := fJ (wr := [(a4, .inl (kA 0, 400, .inl fd))]) hP hD [0] [1] rfl rfl (by decide) (by decide) hk1 hF ht hB
  try dsimp only at hw
  obtain ⟨rfl, e_1⟩ := hw
  replace e_1 := e_1.symm
  subst e_1
  have hP : va_P D vwCl [(a4, .inl (kA 0, 400, .inl fd)), (h0, .inr (2, [.ref a1, .ref a2, .ref a3, .ref a4, .int (nI n), .int ah]))] H := hP
  have hD : va_D A [(a4, .inl (kA 0, 400, .inl fd)), (h0, .inr (2, [.ref a1, .ref a2, .ref a3, .ref a4, .int (nI n), .int ah]))] := hD
  refine lv_if_eq (tgt := 17) hx hb dX3_dirtAt_5 (by decide) (fun c5 => absurd c5 (by decide)) (fun _ => ?_)
  refine lv_aload_n hx hb dX3_dirtAt_8 rfl (lv_at hl 0 rfl) ?_
  refine va_get (D := D) (ci := 2) (v := .ref a4) (C := RX3) (T := TX3) (N := 6) hx hb hts n_X3_dirtAt_in_X3 hown hK hP 1 rfl rfl 3 (by decide) (wAt hts 5 (w := .fieldLink RX3 22 "FluxBench$Surface" "dirtiness" "[I") rfl) (fun _ h9 => h9) rfl dX3_dirtAt_9 ?_
  refine lv_iload_n hx hb dX3_dirtAt_12 rfl (lv_at hl 1 rfl) ?_
  refine va_iald hx hb hK hP 0 0 rfl rfl (vp_in_nI (n := i) (by omega) (by decide)) dX3_dirtAt_13 ?_
  rw [nI_clamp (n := i) (by omega)]
  refine lv_goto (tgt := 18) hx hb dX3_dirtAt_14 (by decide) ?_
  have hP := hP.sub (ws' := [(h0, .inr (2, [.ref a1, .ref a2, .ref a3, .ref a4, .int (nI n), .int ah])), (a4, .inl (kA 0, 400, .inl fd))]) [1, 0] rfl
  have hD := hD.sub (ws' := [(h0, .inr (2, [.ref a1, .ref a2, .ref a3, .ref a4, .int (nI n), .int ah])), (a4, .inl (kA 0, 400, .inl fd))]) [1, 0] (by decide) rfl
  exact endI hx hb hr hlocks hK hP hD hS (⟨rfl, by first | rfl | assumption | omega | (rw [if_pos (by omega)]; first | done | rfl) | (rw [if_neg (by omega)]; first | done | rfl)⟩) (Nat.le_of_ble_eq_true rfl) (Nat.le_of_ble_eq_true rfl) dX3_dirtAt_18

def wq_X3_isWeak_in : List Cond := .code yX3_isWeak cX3_isWeak 2 (some .boolean) :: (([.methodLink RX3 53 yX3_hasPlace, .instanceMethod yX3_hasPlace, .selects RX3 yX3_hasPlace yX3_hasPlace, .initialized RX3, .fieldLink RX3 18 "FluxBench$Surface" "weakness" "[Z"] : List Cond) ++ (u_ws RX3 TX3 6 ++ (wq_X3_hasPlace_in ++ ([] : List Cond))))
theorem gd_X3_isWeak_in : wq_X3_isWeak_in.all goodWord = true := by decide +kernel
theorem n_X3_isWeak_in_X3 : ∀ w ∈ u_ws RX3 TX3 6, w ∈ wq_X3_isWeak_in := fun w h => List.mem_cons_of_mem _ (List.mem_append_right _ (List.mem_append_left _ h))
theorem h_X3_isWeak_in_0 : GoodIn wq_X3_isWeak_in (wsV RX3 53 RX3 yX3_hasPlace wq_X3_hasPlace_in) := goodIn_app (goodIn_r _ [1, 2, 3, 4] (by decide +kernel) (by decide +kernel)) (goodIn_sub (fun w h => List.mem_cons_of_mem _ (List.mem_append_right _ (List.mem_append_right _ (List.mem_append_left _ h)))) gd_X3_hasPlace_in)
set_option maxHeartbeats 4000000 in
set_option maxRecDepth 100000 in
theorem c_X3_isWeak_in (l : Launch) (D : va_G) (kA : Nat → ClassId) (z : Nat) (h0 a1 a2 a3 a4 n : Nat) (ah : Int32) (i : Nat) (fk : Nat → Int32) (h1 : n ≤ 400) (hi : i < n) : mI l D (tyL kA) z yX3_isWeak wq_X3_isWeak_in ({ frames := 1, cells := 0, slots := 0, locals := 21 }) [.ref h0, .int (nI i)] [(h0, .inr (2, [.ref a1, .ref a2, .ref a3, .ref a4, .int (nI n), .int ah])), (a3, .inl (kA 1, 400, .inl fk))] (fun r w => ∃ (b : Nat), w = [(h0, .inr (2, [.ref a1, .ref a2, .ref a3, .ref a4, .int (nI n), .int ah])), (a3, .inl (kA 1, 400, .inl fk))] ∧ (b ≤ 1) ∧ (r = nI b) ∧ (b = if fk i = nI 0 then 0 else 1)) := by
  refine ofI (cc := cX3_isWeak) (maxL := 2) RX3 rfl (by decide +kernel) rfl (Nat.le_of_ble_eq_true rfl) ?_
  intro p e s m args below meth c A ls hE
  obtain ⟨hx, hb, hr, hml, hts, hown, hlocks, hA, hS, hP, hK, hD, hG, hl⟩ := hE
  have hl : lv_has ls 2 [(0, .ref h0), (1, .int (nI i))] := hl
  have hH : s.heap = s.heap := rfl
  refine lv_aload_n hx hb dX3_isWeak_0 rfl (lv_at hl 0 rfl) ?_
  refine lv_iload_n hx hb dX3_isWeak_1 rfl (lv_at hl 1 rfl) ?_
  have hF := va_free (wc := [(h0, .inr (2, [.ref a1, .ref a2, .ref a3, .ref a4, .int (nI n), .int ah]))]) hD hS hA [0] rfl
  refine va_calli (va_runV (As := [.int (nI i)]) (rest := []) ⟨hx, hb, hml, hown, hts⟩ (c_X3_hasPlace_in l D kA z h0 a1 a2 a3 a4 n ah i (by first | assumption | omega) (by first | assumption | omega) _) (cwV 1 hts h_X3_isWeak_in_0 rfl rfl rfl (by decide +kernel) ⟨Nat.le_of_ble_eq_true rfl, Nat.le_of_ble_eq_true rfl⟩) (fPv hK hP hD hS hG hF [0] (by decide) rfl 0 2 rfl rfl rfl) rfl rfl hl.1 rfl (lv_room (Nat.le_of_ble_eq_true rfl)) dX3_isWeak_2 ⟨Nat.le_of_ble_eq_true rfl, Nat.le_of_ble_eq_true rfl⟩) hS (fun q _ h => hF q h) hF (fun r_1 w1 t H locs ht hvm hw hB hz1 hk1 hS => ?_)
  obtain ⟨hP, hD⟩ := fJ (wr := [(a3, .inl (kA 1, 400, .inl fk))]) hP hD [0] [1] rfl rfl (by decide) (by decide) hk1 hF ht hB
  try dsimp only at hw
  obtain ⟨rfl, e_1⟩ := hw
  replace e_1 := e_1.symm
  subst e_1
  have hP : va_P D vwCl [(a3, .inl (kA 1, 400, .inl fk)), (h0, .inr (2, [.ref a1, .ref a2, .ref a3, .ref a4, .int (nI n), .int ah]))] H := hP
  have hD : va_D A [(a3, .inl (kA 1, 400, .inl fk)), (h0, .inr (2, [.ref a1, .ref a2, .ref a3, .ref a4, .int (nI n), .int ah]))] := hD
  refine lv_if_eq (tgt := 21) hx hb dX3_isWeak_5 (by decide) (fun c5 => absurd c5 (by decide)) (fun _ => ?_)
  refine lv_aload_n hx hb dX3_isWeak_8 rfl (lv_at hl 0 rfl) ?_
  refine va_get (D := D) (ci := 2) (v := .ref a3) (C := RX3) (T := TX3) (N := 6) hx hb hts n_X3_isWeak_in_X3 hown hK hP 1 rfl rfl 2 (by decide) (wAt hts 5 (w := .fieldLink RX3 18 "FluxBench$Surface" "weakness" "[Z") rfl) (fun _ h9 => h9) rfl dX3_isWeak_9 ?_
  refine lv_iload_n hx hb dX3_isWeak_12 rfl (lv_at hl 1 rfl) ?_
  refine va_zald hx hb hK hP 0 1 rfl rfl (vp_in_nI (n := i) (by omega) (by decide)) dX3_isWeak_13 ?_
  rw [nI_clamp (n := i) (by omega)]
  refine lv_if_eq (tgt := 21) hx hb dX3_isWeak_14 (by decide) (fun c14 => ?_) (fun c14 => ?_)
  ·
    refine lv_iconst (v := nI 0) hx hb dX3_isWeak_21 (by decide) ?_
    have hP := hP.sub (ws' := [(h0, .inr (2, [.ref a1, .ref a2, .ref a3, .ref a4, .int (nI n), .int ah])), (a3, .inl (kA 1, 400, .inl fk))]) [1, 0] rfl
    have hD := hD.sub (ws' := [(h0, .inr (2, [.ref a1, .ref a2, .ref a3, .ref a4, .int (nI n), .int ah])), (a3, .inl (kA 1, 400, .inl fk))]) [1, 0] (by decide) rfl
    exact endZ hx hb hr hlocks (rfl) hK hP hD hS (⟨0, rfl, by first | rfl | assumption | omega | (rw [if_pos (by omega)]; first | done | rfl) | (rw [if_neg (by omega)]; first | done | rfl), by first | rfl | assumption | omega | (rw [if_pos (by omega)]; first | done | rfl) | (rw [if_neg (by omega)]; first | done | rfl), by first | exact (if_pos c14).symm | exact (if_neg c14).symm⟩) (Nat.le_of_ble_eq_true rfl) (Nat.le_of_ble_eq_true rfl) dX3_isWeak_22
  ·
    refine lv_iconst (v := nI 1) hx hb dX3_isWeak_17 (by decide) ?_
    refine lv_goto (tgt := 22) hx hb dX3_isWeak_18 (by decide) ?_
    have hP := hP.sub (ws' := [(h0, .inr (2, [.ref a1, .ref a2, .ref a3, .ref a4, .int (nI n), .int ah])), (a3, .inl (kA 1, 400, .inl fk))]) [1, 0] rfl
    have hD := hD.sub (ws' := [(h0, .inr (2, [.ref a1, .ref a2, .ref a3, .ref a4, .int (nI n), .int ah])), (a3, .inl (kA 1, 400, .inl fk))]) [1, 0] (by decide) rfl
    exact endZ hx hb hr hlocks (rfl) hK hP hD hS (⟨1, rfl, by first | rfl | assumption | omega | (rw [if_pos (by omega)]; first | done | rfl) | (rw [if_neg (by omega)]; first | done | rfl), by first | rfl | assumption | omega | (rw [if_pos (by omega)]; first | done | rfl) | (rw [if_neg (by omega)]; first | done | rfl), by first | exact (if_pos c14).symm | exact (if_neg c14).symm⟩) (Nat.le_of_ble_eq_true rfl) (Nat.le_of_ble_eq_true rfl) dX3_isWeak_22

def wq_X3_setWeak_in : List Cond := .code yX3_setWeak cX3_setWeak 3 none :: (([.methodLink RX3 53 yX3_hasPlace, .instanceMethod yX3_hasPlace, .selects RX3 yX3_hasPlace yX3_hasPlace, .initialized RX3, .fieldLink RX3 18 "FluxBench$Surface" "weakness" "[Z"] : List Cond) ++ (u_ws RX3 TX3 6 ++ (wq_X3_hasPlace_in ++ ([] : List Cond))))
theorem gd_X3_setWeak_in : wq_X3_setWeak_in.all goodWord = true := by decide +kernel
theorem n_X3_setWeak_in_X3 : ∀ w ∈ u_ws RX3 TX3 6, w ∈ wq_X3_setWeak_in := fun w h => List.mem_cons_of_mem _ (List.mem_append_right _ (List.mem_append_left _ h))
theorem h_X3_setWeak_in_0 : GoodIn wq_X3_setWeak_in (wsV RX3 53 RX3 yX3_hasPlace wq_X3_hasPlace_in) := goodIn_app (goodIn_r _ [1, 2, 3, 4] (by decide +kernel) (by decide +kernel)) (goodIn_sub (fun w h => List.mem_cons_of_mem _ (List.mem_append_right _ (List.mem_append_right _ (List.mem_append_left _ h)))) gd_X3_hasPlace_in)
set_option maxHeartbeats 4000000 in
set_option maxRecDepth 100000 in
theorem c_X3_setWeak_in (l : Launch) (D : va_G) (kA : Nat → ClassId) (z : Nat) (h0 a1 a2 a3 a4 n : Nat) (ah : Int32) (i b : Nat) (fk : Nat → Int32) (h1 : n ≤ 400) (hi : i < n) (hb9 : b ≤ 1) : mV l D (tyL kA) z yX3_setWeak wq_X3_setWeak_in ({ frames := 1, cells := 0, slots := 0, locals := 21 }) [.ref h0, .int (nI i), .int (nI b)] [(h0, .inr (2, [.ref a1, .ref a2, .ref a3, .ref a4, .int (nI n), .int ah])), (a3, .inl (kA 1, 400, .inl fk))] (fun w => w = [(h0, .inr (2, [.ref a1, .ref a2, .ref a3, .ref a4, .int (nI n), .int ah])), (a3, .inl (kA 1, 400, .inl (upd fk i (nI b))))]) := by
  refine ofV (cc := cX3_setWeak) (maxL := 3) RX3 rfl (by decide +kernel) rfl (Nat.le_of_ble_eq_true rfl) ?_
  intro p e s m args below meth c A ls hnm hE
  obtain ⟨hx, hb, hr, hml, hts, hown, hlocks, hA, hS, hP, hK, hD, hG, hl⟩ := hE
  have hl : lv_has ls 3 [(0, .ref h0), (1, .int (nI i)), (2, .int (nI b))] := hl
  have hH : s.heap = s.heap := rfl
  refine lv_aload_n hx hb dX3_setWeak_0 rfl (lv_at hl 0 rfl) ?_
  refine lv_iload_n hx hb dX3_setWeak_1 rfl (lv_at hl 1 rfl) ?_
  have hF := va_free (wc := [(h0, .inr (2, [.ref a1, .ref a2, .ref a3, .ref a4, .int (nI n), .int ah]))]) hD hS hA [0] rfl
  refine va_calli (va_runV (As := [.int (nI i)]) (rest := []) ⟨hx, hb, hml, hown, hts⟩ (c_X3_hasPlace_in l D kA z h0 a1 a2 a3 a4 n ah i (by first | assumption | omega) (by first | assumption | omega) _) (cwV 1 hts h_X3_setWeak_in_0 rfl rfl rfl (by decide +kernel) ⟨Nat.le_of_ble_eq_true rfl, Nat.le_of_ble_eq_true rfl⟩) (fPv hK hP hD hS hG hF [0] (by decide) rfl 0 2 rfl rfl rfl) rfl rfl hl.1 rfl (lv_room (Nat.le_of_ble_eq_true rfl)) dX3_setWeak_2 ⟨Nat.le_of_ble_eq_true rfl, Nat.le_of_ble_eq_true rfl⟩) hS (fun q _ h => hF q h) hF (fun r_1 w1 t H locs ht hvm hw hB hz1 hk1 hS => ?_)
  obtain ⟨hP, hD⟩ := fJ (wr := [(a3, .inl (kA 1, 400, .inl fk))]) hP hD [0] [1] rfl rfl (by decide) (by decide) hk1 hF ht hB
  try dsimp only at hw
  obtain ⟨rfl, e_1⟩ := hw
  replace e_1 := e_1.symm
  subst e_1
  have hP : va_P D vwCl [(a3, .inl (kA 1, 400, .inl fk)), (h0, .inr (2, [.ref a1, .ref a2, .ref a3, .ref a4, .int (nI n), .int ah]))] H := hP
  have hD : va_D A [(a3, .inl (kA 1, 400, .inl fk)), (h0, .inr (2, [.ref a1, .ref a2, .ref a3, .ref a4, .int (nI n), .int ah]))] := hD
  refine lv_if_eq (tgt := 15) hx hb dX3_setWeak_5 (by decide) (fun c5 => absurd c5 (by decide)) (fun _ => ?_)
  refine lv_aload_n hx hb dX3_setWeak_8 rfl (lv_at hl 0 rfl) ?_
  refine va_get (D := D) (ci := 2) (v := .ref a3) (C := RX3) (T := TX3) (N := 6) hx hb hts n_X3_setWeak_in_X3 hown hK hP 1 rfl rfl 2 (by decide) (wAt hts 5 (w := .fieldLink RX3 18 "FluxBench$Surface" "weakness" "[Z") rfl) (fun _ h9 => h9) rfl dX3_setWeak_9 ?_
  refine lv_iload_n hx hb dX3_setWeak_12 rfl (lv_at hl 1 rfl) ?_
  refine lv_iload_n hx hb dX3_setWeak_13 rfl (lv_at hl 2 rfl) ?_
  refine va_zast hx hb hK hP hD hS 0 1 rfl rfl (vp_in_nI (n := i) (by omega) (by decide)) dX3_setWeak_14 (fun H locs hP hD hS => ?_)
  rw [nI_clamp (n := i) (by omega)] at hP hD
  rw [(nar01 hb9 : vp_nar .boolean (nI b) = nI b)] at hP hD
  have hP : va_P D vwCl [(a3, .inl (kA 1, 400, .inl (upd fk i (nI b)))), (h0, .inr (2, [.ref a1, .ref a2, .ref a3, .ref a4, .int (nI n), .int ah]))] H := hP
  have hD : va_D A [(a3, .inl (kA 1, 400, .inl (upd fk i (nI b)))), (h0, .inr (2, [.ref a1, .ref a2, .ref a3, .ref a4, .int (nI n), .int ah]))] := hD
  have hP := hP.sub (ws' := [(h0, .inr (2, [.ref a1, .ref a2, .ref a3, .ref a4, .int (nI n), .int ah])), (a3, .inl (kA 1, 400, .inl (upd fk i (nI b))))]) [1, 0] rfl
  have hD := hD.sub (ws' := [(h0, .inr (2, [.ref a1, .ref a2, .ref a3, .ref a4, .int (nI n), .int ah])), (a3, .inl (kA 1, 400, .inl (upd fk i (nI b))))]) [1, 0] (by decide) rfl
  exact endV hx hb hr hlocks hK hP hD hS (rfl) (Nat.le_of_ble_eq_true rfl) (Nat.le_of_ble_eq_true rfl) dX3_setWeak_15

def wq_X3_setDirt_in : List Cond := .code yX3_setDirt cX3_setDirt 3 none :: (([.methodLink RX3 53 yX3_hasPlace, .instanceMethod yX3_hasPlace, .selects RX3 yX3_hasPlace yX3_hasPlace, .initialized RX3, .fieldLink RX3 22 "FluxBench$Surface" "dirtiness" "[I"] : List Cond) ++ (u_ws RX3 TX3 6 ++ (wq_X3_hasPlace_in ++ ([] : List Cond))))
theorem gd_X3_setDirt_in : wq_X3_setDirt_in.all goodWord = true := by decide +kernel
theorem n_X3_setDirt_in_X3 : ∀ w ∈ u_ws RX3 TX3 6, w ∈ wq_X3_setDirt_in := fun w h => List.mem_cons_of_mem _ (List.mem_append_right _ (List.mem_append_left _ h))
theorem h_X3_setDirt_in_0 : GoodIn wq_X3_setDirt_in (wsV RX3 53 RX3 yX3_hasPlace wq_X3_hasPlace_in) := goodIn_app (goodIn_r _ [1, 2, 3, 4] (by decide +kernel) (by decide +kernel)) (goodIn_sub (fun w h => List.mem_cons_of_mem _ (List.mem_append_right _ (List.mem_append_right _ (List.mem_append_left _ h)))) gd_X3_hasPlace_in)
set_option maxHeartbeats 4000000 in
set_option maxRecDepth 100000 in
theorem c_X3_setDirt_in (l : Launch) (D : va_G) (kA : Nat → ClassId) (z : Nat) (h0 a1 a2 a3 a4 n : Nat) (ah : Int32) (i : Nat) (x : Int32) (fd : Nat → Int32) (h1 : n ≤ 400) (hi : i < n) : mV l D (tyL kA) z yX3_setDirt wq_X3_setDirt_in ({ frames := 1, cells := 0, slots := 0, locals := 21 }) [.ref h0, .int (nI i), .int x] [(h0, .inr (2, [.ref a1, .ref a2, .ref a3, .ref a4, .int (nI n), .int ah])), (a4, .inl (kA 0, 400, .inl fd))] (fun w => w = [(h0, .inr (2, [.ref a1, .ref a2, .ref a3, .ref a4, .int (nI n), .int ah])), (a4, .inl (kA 0, 400, .inl (upd fd i x)))]) := by
  refine ofV (cc := cX3_setDirt) (maxL := 3) RX3 rfl (by decide +kernel) rfl (Nat.le_of_ble_eq_true rfl) ?_
  intro p e s m args below meth c A ls hnm hE
  obtain ⟨hx, hb, hr, hml, hts, hown, hlocks, hA, hS, hP, hK, hD, hG, hl⟩ := hE
  have hl : lv_has ls 3 [(0, .ref h0), (1, .int (nI i)), (2, .int x)] := hl
  have hH : s.heap = s.heap := rfl
  refine lv_aload_n hx hb dX3_setDirt_0 rfl (lv_at hl 0 rfl) ?_
  refine lv_iload_n hx hb dX3_setDirt_1 rfl (lv_at hl 1 rfl) ?_
  have hF := va_free (wc := [(h0, .inr (2, [.ref a1, .ref a2, .ref a3, .ref a4, .int (nI n), .int ah]))]) hD hS hA [0] rfl
  refine va_calli (va_runV (As := [.int (nI i)]) (rest := []) ⟨hx, hb, hml, hown, hts⟩ (c_X3_hasPlace_in l D kA z h0 a1 a2 a3 a4 n ah i (by first | assumption | omega) (by first | assumption | omega) _) (cwV 1 hts h_X3_setDirt_in_0 rfl rfl rfl (by decide +kernel) ⟨Nat.le_of_ble_eq_true rfl, Nat.le_of_ble_eq_true rfl⟩) (fPv hK hP hD hS hG hF [0] (by decide) rfl 0 2 rfl rfl rfl) rfl rfl hl.1 rfl (lv_room (Nat.le_of_ble_eq_true rfl)) dX3_setDirt_2 ⟨Nat.le_of_ble_eq_true rfl, Nat.le_of_ble_eq_true rfl⟩) hS (fun q _ h => hF q h) hF (fun r_1 w1 t H locs ht hvm hw hB hz1 hk1 hS => ?_)
  obtain ⟨hP, hD⟩ := fJ (wr := [(a4, .inl (kA 0, 400, .inl fd))]) hP hD [0] [1] rfl rfl (by decide) (by decide) hk1 hF ht hB
  try dsimp only at hw
  obtain ⟨rfl, e_1⟩ := hw
  replace e_1 := e_1.symm
  subst e_1
  have hP : va_P D vwCl [(a4, .inl (kA 0, 400, .inl fd)), (h0, .inr (2, [.ref a1, .ref a2, .ref a3, .ref a4, .int (nI n), .int ah]))] H := hP
  have hD : va_D A [(a4, .inl (kA 0, 400, .inl fd)), (h0, .inr (2, [.ref a1, .ref a2, .ref a3, .ref a4, .int (nI n), .int ah]))] := hD
  refine lv_if_eq (tgt := 15) hx hb dX3_setDirt_5 (by decide) (fun c5 => absurd c5 (by decide)) (fun _ => ?_)
  refine lv_aload_n hx hb dX3_setDirt_8 rfl (lv_at hl 0 rfl) ?_
  refine va_get (D := D) (ci := 2) (v := .ref a4) (C := RX3) (T := TX3) (N := 6) hx hb hts n_X3_setDirt_in_X3 hown hK hP 1 rfl rfl 3 (by decide) (wAt hts 5 (w := .fieldLink RX3 22 "FluxBench$Surface" "dirtiness" "[I") rfl) (fun _ h9 => h9) rfl dX3_setDirt_9 ?_
  refine lv_iload_n hx hb dX3_setDirt_12 rfl (lv_at hl 1 rfl) ?_
  refine lv_iload_n hx hb dX3_setDirt_13 rfl (lv_at hl 2 rfl) ?_
  refine va_iast hx hb hK hP hD hS 0 0 rfl rfl (vp_in_nI (n := i) (by omega) (by decide)) dX3_setDirt_14 (fun H locs hP hD hS => ?_)
  rw [nI_clamp (n := i) (by omega)] at hP hD
  have hP : va_P D vwCl [(a4, .inl (kA 0, 400, .inl (upd fd i x))), (h0, .inr (2, [.ref a1, .ref a2, .ref a3, .ref a4, .int (nI n), .int ah]))] H := hP
  have hD : va_D A [(a4, .inl (kA 0, 400, .inl (upd fd i x))), (h0, .inr (2, [.ref a1, .ref a2, .ref a3, .ref a4, .int (nI n), .int ah]))] := hD
  have hP := hP.sub (ws' := [(h0, .inr (2, [.ref a1, .ref a2, .ref a3, .ref a4, .int (nI n), .int ah])), (a4, .inl (kA 0, 400, .inl (upd fd i x)))]) [1, 0] rfl
  have hD := hD.sub (ws' := [(h0, .inr (2, [.ref a1, .ref a2, .ref a3, .ref a4, .int (nI n), .int ah])), (a4, .inl (kA 0, 400, .inl (upd fd i x)))]) [1, 0] (by decide) rfl
  exact endV hx hb hr hlocks hK hP hD hS (rfl) (Nat.le_of_ble_eq_true rfl) (Nat.le_of_ble_eq_true rfl) dX3_setDirt_15

def wq_X3_dirtTold_in : List Cond := .code yX3_dirtTold cX3_dirtTold 3 (some .int) :: (([.methodLink RX3 57 yX3_dirtAt, .instanceMethod yX3_dirtAt, .selects RX3 yX3_dirtAt yX3_dirtAt, .initialized RX3] : List Cond) ++ (wq_X3_dirtAt_in ++ ([] : List Cond)))
theorem gd_X3_dirtTold_in : wq_X3_dirtTold_in.all goodWord = true := by decide +kernel
theorem h_X3_dirtTold_in_0 : GoodIn wq_X3_dirtTold_in (wsV RX3 57 RX3 yX3_dirtAt wq_X3_dirtAt_in) := goodIn_app (goodIn_r _ [1, 2, 3, 4] (by decide +kernel) (by decide +kernel)) (goodIn_sub (fun w h => List.mem_cons_of_mem _ (List.mem_append_right _ (List.mem_append_left _ h))) gd_X3_dirtAt_in)
set_option maxHeartbeats 4000000 in
set_option maxRecDepth 100000 in
theorem c_X3_dirtTold_in (l : Launch) (D : va_G) (kA : Nat → ClassId) (z : Nat) (h0 a1 a2 a3 a4 n : Nat) (ah : Int32) (i : Nat) (fd : Nat → Int32) (h1 : n ≤ 400) (hi : i < n) : mI l D (tyL kA) z yX3_dirtTold wq_X3_dirtTold_in ({ frames := 2, cells := 0, slots := 0, locals := 43 }) [.ref h0, .int (nI i)] [(h0, .inr (2, [.ref a1, .ref a2, .ref a3, .ref a4, .int (nI n), .int ah])), (a4, .inl (kA 0, 400, .inl fd))] (fun r w => w = [(h0, .inr (2, [.ref a1, .ref a2, .ref a3, .ref a4, .int (nI n), .int ah])), (a4, .inl (kA 0, 400, .inl fd))] ∧ (r = nI (dT (fd i))) ∧ (dT (fd i) ≤ 2)) := by
  refine ofI (cc := cX3_dirtTold) (maxL := 3) RX3 rfl (by decide +kernel) rfl (Nat.le_of_ble_eq_true rfl) ?_
  intro p e s m args below meth c A ls hE
  obtain ⟨hx, hb, hr, hml, hts, hown, hlocks, hA, hS, hP, hK, hD, hG, hl⟩ := hE
  have hl : lv_has ls 3 [(0, .ref h0), (1, .int (nI i))] := hl
  have hH : s.heap = s.heap := rfl
  refine lv_aload_n hx hb dX3_dirtTold_0 rfl (lv_at hl 0 rfl) ?_
  refine lv_iload_n hx hb dX3_dirtTold_1 rfl (lv_at hl 1 rfl) ?_
  have hF := va_free (wc := [(h0, .inr (2, [.ref a1, .ref a2, .ref a3, .ref a4, .int (nI n), .int ah])), (a4, .inl (kA 0, 400, .inl fd))]) hD hS hA [0, 1] rfl
  refine va_calli (va_runV (As := [.int (nI i)]) (rest := []) ⟨hx, hb, hml, hown, hts⟩ (c_X3_dirtAt_in l D kA z h0 a1 a2 a3 a4 n ah i fd (by first | assumption | omega) (by first | assumption | omega) _) (cwV 1 hts h_X3_dirtTold_in_0 rfl rfl rfl (by decide +kernel) ⟨Nat.le_of_ble_eq_true rfl, Nat.le_of_ble_eq_true rfl⟩) (fPv hK hP hD hS hG hF [0, 1] (by decide) rfl 0 2 rfl rfl rfl) rfl rfl hl.1 rfl (lv_room (Nat.le_of_ble_eq_true rfl)) dX3_dirtTold_2 ⟨Nat.le_of_ble_eq_true rfl, Nat.le_of_ble_eq_true rfl⟩) hS (fun q _ h => hF q h) hF (fun r_1 w1 t H locs ht hvm hw hB hz1 hk1 hS => ?_)
  obtain ⟨hP, hD⟩ := fJ (wr := []) hP hD [0, 1] [] rfl rfl (by decide) (by decide) hk1 hF ht hB
  try dsimp only at hw
  obtain ⟨rfl, e_1⟩ := hw
  have hP : va_P D vwCl [(h0, .inr (2, [.ref a1, .ref a2, .ref a3, .ref a4, .int (nI n), .int ah])), (a4, .inl (kA 0, 400, .inl fd))] H := hP
  have hD : va_D A [(h0, .inr (2, [.ref a1, .ref a2, .ref a3, .ref a4, .int (nI n), .int ah])), (a4, .inl (kA 0, 400, .inl fd))] := hD
  refine lv_istore_n (lv' := [(2, .int r_1), (0, .ref h0), (1, .int (nI i))]) hx hb dX3_dirtTold_5 rfl hl (by decide) rfl (fun ls hl => ?_)
  refine lv_iload_n hx hb dX3_dirtTold_6 rfl (lv_at hl 0 rfl) ?_
  refine lv_if_ne (tgt := 12) hx hb dX3_dirtTold_7 (by decide) (fun c7 => ?_) (fun c7 => ?_)
  ·
    refine lv_iload_n hx hb dX3_dirtTold_12 rfl (lv_at hl 0 rfl) ?_
    refine lv_iconst (v := nI 3) hx hb dX3_dirtTold_13 (by decide) ?_
    refine lv_icmp_ne (tgt := 21) hx hb dX3_dirtTold_14 (by decide) (fun c14 => ?_) (fun c14 => ?_)
    ·
      refine lv_iconst (v := nI 1) hx hb dX3_dirtTold_21 (by decide) ?_
      exact endI hx hb hr hlocks hK hP hD hS (⟨rfl, by first | rw [dT_3 (by rw [← e_1]; exact c14)] | rw [dT_1 (by rw [← e_1]; exact c7) (by rw [← e_1]; exact c14)], dT_le _⟩) (Nat.le_of_ble_eq_true rfl) (Nat.le_of_ble_eq_true rfl) dX3_dirtTold_22
    ·
      refine lv_iconst (v := nI 2) hx hb dX3_dirtTold_17 (by decide) ?_
      refine lv_goto (tgt := 22) hx hb dX3_dirtTold_18 (by decide) ?_
      exact endI hx hb hr hlocks hK hP hD hS (⟨rfl, by first | rw [dT_3 (by rw [← e_1]; exact c14)] | rw [dT_1 (by rw [← e_1]; exact c7) (by rw [← e_1]; exact c14)], dT_le _⟩) (Nat.le_of_ble_eq_true rfl) (Nat.le_of_ble_eq_true rfl) dX3_dirtTold_22
  ·
    refine lv_iconst (v := nI 0) hx hb dX3_dirtTold_10 (by decide) ?_
    exact endI hx hb hr hlocks hK hP hD hS (⟨rfl, by rw [dT_0 (by rw [← e_1]; exact c7)], dT_le _⟩) (Nat.le_of_ble_eq_true rfl) (Nat.le_of_ble_eq_true rfl) dX3_dirtTold_11

def wq_X3_isDrawn : List Cond := .code yX3_isDrawn cX3_isDrawn 2 (some .boolean) :: (([.methodLink RX3 60 yX3_isWeak, .instanceMethod yX3_isWeak, .selects RX3 yX3_isWeak yX3_isWeak, .initialized RX3, .methodLink RX3 57 yX3_dirtAt, .instanceMethod yX3_dirtAt, .selects RX3 yX3_dirtAt yX3_dirtAt] : List Cond) ++ (wq_X3_isWeak_in ++ (wq_X3_dirtAt_in ++ ([] : List Cond))))
theorem gd_X3_isDrawn : wq_X3_isDrawn.all goodWord = true := by decide +kernel
theorem h_X3_isDrawn_0 : GoodIn wq_X3_isDrawn (wsV RX3 60 RX3 yX3_isWeak wq_X3_isWeak_in) := goodIn_app (goodIn_r _ [1, 2, 3, 4] (by decide +kernel) (by decide +kernel)) (goodIn_sub (fun w h => List.mem_cons_of_mem _ (List.mem_append_right _ (List.mem_append_left _ h))) gd_X3_isWeak_in)
theorem h_X3_isDrawn_1 : GoodIn wq_X3_isDrawn (wsV RX3 57 RX3 yX3_dirtAt wq_X3_dirtAt_in) := goodIn_app (goodIn_r _ [5, 6, 7, 4] (by decide +kernel) (by decide +kernel)) (goodIn_sub (fun w h => List.mem_cons_of_mem _ (List.mem_append_right _ (List.mem_append_right _ (List.mem_append_left _ h)))) gd_X3_dirtAt_in)
set_option maxHeartbeats 4000000 in
set_option maxRecDepth 100000 in
theorem c_X3_isDrawn (l : Launch) (D : va_G) (kA : Nat → ClassId) (z : Nat) (h0 a1 a2 a3 a4 n : Nat) (ah : Int32) (i : Nat) (fk fd : Nat → Int32) (h1 : n ≤ 400) (hi : i < n) : mI l D (tyL kA) z yX3_isDrawn wq_X3_isDrawn ({ frames := 2, cells := 0, slots := 0, locals := 43 }) [.ref h0, .int (nI i)] [(h0, .inr (2, [.ref a1, .ref a2, .ref a3, .ref a4, .int (nI n), .int ah])), (a3, .inl (kA 1, 400, .inl fk)), (a4, .inl (kA 0, 400, .inl fd))] (fun r w => ∃ (b : Nat), w = [(h0, .inr (2, [.ref a1, .ref a2, .ref a3, .ref a4, .int (nI n), .int ah])), (a3, .inl (kA 1, 400, .inl fk)), (a4, .inl (kA 0, 400, .inl fd))] ∧ (b ≤ 1) ∧ (r = nI b)) := by
  refine ofI (cc := cX3_isDrawn) (maxL := 2) RX3 rfl (by decide +kernel) rfl (Nat.le_of_ble_eq_true rfl) ?_
  intro p e s m args below meth c A ls hE
  obtain ⟨hx, hb, hr, hml, hts, hown, hlocks, hA, hS, hP, hK, hD, hG, hl⟩ := hE
  have hl : lv_has ls 2 [(0, .ref h0), (1, .int (nI i))] := hl
  have hH : s.heap = s.heap := rfl
  refine lv_aload_n hx hb dX3_isDrawn_0 rfl (lv_at hl 0 rfl) ?_
  refine lv_iload_n hx hb dX3_isDrawn_1 rfl (lv_at hl 1 rfl) ?_
  have hF := va_free (wc := [(h0, .inr (2, [.ref a1, .ref a2, .ref a3, .ref a4, .int (nI n), .int ah])), (a3, .inl (kA 1, 400, .inl fk))]) hD hS hA [0, 1] rfl
  refine va_calli (va_runV (As := [.int (nI i)]) (rest := []) ⟨hx, hb, hml, hown, hts⟩ (c_X3_isWeak_in l D kA z h0 a1 a2 a3 a4 n ah i fk (by first | assumption | omega) (by first | assumption | omega) _) (cwV 1 hts h_X3_isDrawn_0 rfl rfl rfl (by decide +kernel) ⟨Nat.le_of_ble_eq_true rfl, Nat.le_of_ble_eq_true rfl⟩) (fPv hK hP hD hS hG hF [0, 1] (by decide) rfl 0 2 rfl rfl rfl) rfl rfl hl.1 rfl (lv_room (Nat.le_of_ble_eq_true rfl)) dX3_isDrawn_2 ⟨Nat.le_of_ble_eq_true rfl, Nat.le_of_ble_eq_true rfl⟩) hS (fun q _ h => hF q h) hF (fun r_1 w1 t H locs ht hvm hw hB hz1 hk1 hS => ?_)
  obtain ⟨hP, hD⟩ := fJ (wr := [(a4, .inl (kA 0, 400, .inl fd))]) hP hD [0, 1] [2] rfl rfl (by decide) (by decide) hk1 hF ht hB
  try dsimp only at hw
  obtain ⟨b_1, rfl, hb_1, e_1, e_2⟩ := hw
  replace e_1 := e_1.symm
  subst e_1
  have hP : va_P D vwCl [(a4, .inl (kA 0, 400, .inl fd)), (h0, .inr (2, [.ref a1, .ref a2, .ref a3, .ref a4, .int (nI n), .int ah])), (a3, .inl (kA 1, 400, .inl fk))] H := hP
  have hD : va_D A [(a4, .inl (kA 0, 400, .inl fd)), (h0, .inr (2, [.ref a1, .ref a2, .ref a3, .ref a4, .int (nI n), .int ah])), (a3, .inl (kA 1, 400, .inl fk))] := hD
  refine lv_if_eq (tgt := 20) hx hb dX3_isDrawn_5 (by decide) (fun c5 => ?_) (fun c5 => ?_)
  ·
    rw [qz (a := b_1) (by omega)] at c5
    refine lv_iconst (v := nI 0) hx hb dX3_isDrawn_20 (by decide) ?_
    have hP := hP.sub (ws' := [(h0, .inr (2, [.ref a1, .ref a2, .ref a3, .ref a4, .int (nI n), .int ah])), (a3, .inl (kA 1, 400, .inl fk)), (a4, .inl (kA 0, 400, .inl fd))]) [1, 2, 0] rfl
    have hD := hD.sub (ws' := [(h0, .inr (2, [.ref a1, .ref a2, .ref a3, .ref a4, .int (nI n), .int ah])), (a3, .inl (kA 1, 400, .inl fk)), (a4, .inl (kA 0, 400, .inl fd))]) [1, 2, 0] (by decide) rfl
    exact endZ hx hb hr hlocks (rfl) hK hP hD hS (⟨0, rfl, by first | rfl | assumption | omega | (rw [if_pos (by omega)]; first | done | rfl) | (rw [if_neg (by omega)]; first | done | rfl), by first | rfl | assumption | omega | (rw [if_pos (by omega)]; first | done | rfl) | (rw [if_neg (by omega)]; first | done | rfl)⟩) (Nat.le_of_ble_eq_true rfl) (Nat.le_of_ble_eq_true rfl) dX3_isDrawn_21
  ·
    rw [qz (a := b_1) (by omega)] at c5
    refine lv_aload_n hx hb dX3_isDrawn_8 rfl (lv_at hl 0 rfl) ?_
    refine lv_iload_n hx hb dX3_isDrawn_9 rfl (lv_at hl 1 rfl) ?_
    have hF := va_free (wc := [(h0, .inr (2, [.ref a1, .ref a2, .ref a3, .ref a4, .int (nI n), .int ah])), (a4, .inl (kA 0, 400, .inl fd))]) hD hS hA [1, 0] rfl
    refine va_calli (va_runV (As := [.int (nI i)]) (rest := []) ⟨hx, hb, hml, hown, hts⟩ (c_X3_dirtAt_in l D kA z h0 a1 a2 a3 a4 n ah i fd (by first | assumption | omega) (by first | assumption | omega) _) (cwV 1 hts h_X3_isDrawn_1 rfl rfl rfl (by decide +kernel) ⟨Nat.le_of_ble_eq_true rfl, Nat.le_of_ble_eq_true rfl⟩) (fPv hK hP hD hS hG hF [1, 0] (by decide) rfl 1 2 rfl rfl rfl) rfl rfl hl.1 rfl (lv_room (Nat.le_of_ble_eq_true rfl)) dX3_isDrawn_10 ⟨Nat.le_of_ble_eq_true rfl, Nat.le_of_ble_eq_true rfl⟩) hS (fun q _ h => hF q h) hF (fun r_2 w1 t H locs ht hvm hw hB hz1 hk1 hS => ?_)
    obtain ⟨hP, hD⟩ := fJ (wr := [(a3, .inl (kA 1, 400, .inl fk))]) hP hD [1, 0] [2] rfl rfl (by decide) (by decide) hk1 hF ht hB
    try dsimp only at hw
    obtain ⟨rfl, e_3⟩ := hw
    have hP : va_P D vwCl [(a3, .inl (kA 1, 400, .inl fk)), (h0, .inr (2, [.ref a1, .ref a2, .ref a3, .ref a4, .int (nI n), .int ah])), (a4, .inl (kA 0, 400, .inl fd))] H := hP
    have hD : va_D A [(a3, .inl (kA 1, 400, .inl fk)), (h0, .inr (2, [.ref a1, .ref a2, .ref a3, .ref a4, .int (nI n), .int ah])), (a4, .inl (kA 0, 400, .inl fd))] := hD
    refine lv_if_ne (tgt := 20) hx hb dX3_isDrawn_13 (by decide) (fun c13 => ?_) (fun c13 => ?_)
    ·
      refine lv_iconst (v := nI 0) hx hb dX3_isDrawn_20 (by decide) ?_
      have hP := hP.sub (ws' := [(h0, .inr (2, [.ref a1, .ref a2, .ref a3, .ref a4, .int (nI n), .int ah])), (a3, .inl (kA 1, 400, .inl fk)), (a4, .inl (kA 0, 400, .inl fd))]) [1, 0, 2] rfl
      have hD := hD.sub (ws' := [(h0, .inr (2, [.ref a1, .ref a2, .ref a3, .ref a4, .int (nI n), .int ah])), (a3, .inl (kA 1, 400, .inl fk)), (a4, .inl (kA 0, 400, .inl fd))]) [1, 0, 2] (by decide) rfl
      exact endZ hx hb hr hlocks (rfl) hK hP hD hS (⟨0, rfl, by first | rfl | assumption | omega | (rw [if_pos (by omega)]; first | done | rfl) | (rw [if_neg (by omega)]; first | done | rfl), by first | rfl | assumption | omega | (rw [if_pos (by omega)]; first | done | rfl) | (rw [if_neg (by omega)]; first | done | rfl)⟩) (Nat.le_of_ble_eq_true rfl) (Nat.le_of_ble_eq_true rfl) dX3_isDrawn_21
    ·
      refine lv_iconst (v := nI 1) hx hb dX3_isDrawn_16 (by decide) ?_
      refine lv_goto (tgt := 21) hx hb dX3_isDrawn_17 (by decide) ?_
      have hP := hP.sub (ws' := [(h0, .inr (2, [.ref a1, .ref a2, .ref a3, .ref a4, .int (nI n), .int ah])), (a3, .inl (kA 1, 400, .inl fk)), (a4, .inl (kA 0, 400, .inl fd))]) [1, 0, 2] rfl
      have hD := hD.sub (ws' := [(h0, .inr (2, [.ref a1, .ref a2, .ref a3, .ref a4, .int (nI n), .int ah])), (a3, .inl (kA 1, 400, .inl fk)), (a4, .inl (kA 0, 400, .inl fd))]) [1, 0, 2] (by decide) rfl
      exact endZ hx hb hr hlocks (rfl) hK hP hD hS (⟨1, rfl, by first | rfl | assumption | omega | (rw [if_pos (by omega)]; first | done | rfl) | (rw [if_neg (by omega)]; first | done | rfl), by first | rfl | assumption | omega | (rw [if_pos (by omega)]; first | done | rfl) | (rw [if_neg (by omega)]; first | done | rfl)⟩) (Nat.le_of_ble_eq_true rfl) (Nat.le_of_ble_eq_true rfl) dX3_isDrawn_21

def wq_X3_isPlainOne : List Cond := .code yX3_isPlainOne cX3_isPlainOne 2 (some .boolean) :: (([.methodLink RX3 63 yX3_bitAt, .instanceMethod yX3_bitAt, .selects RX3 yX3_bitAt yX3_bitAt, .initialized RX3, .methodLink RX3 57 yX3_dirtAt, .instanceMethod yX3_dirtAt, .selects RX3 yX3_dirtAt yX3_dirtAt] : List Cond) ++ (wq_X3_bitAt_in ++ (wq_X3_dirtAt_in ++ ([] : List Cond))))
theorem gd_X3_isPlainOne : wq_X3_isPlainOne.all goodWord = true := by decide +kernel
theorem h_X3_isPlainOne_0 : GoodIn wq_X3_isPlainOne (wsV RX3 63 RX3 yX3_bitAt wq_X3_bitAt_in) := goodIn_app (goodIn_r _ [1, 2, 3, 4] (by decide +kernel) (by decide +kernel)) (goodIn_sub (fun w h => List.mem_cons_of_mem _ (List.mem_append_right _ (List.mem_append_left _ h))) gd_X3_bitAt_in)
theorem h_X3_isPlainOne_1 : GoodIn wq_X3_isPlainOne (wsV RX3 57 RX3 yX3_dirtAt wq_X3_dirtAt_in) := goodIn_app (goodIn_r _ [5, 6, 7, 4] (by decide +kernel) (by decide +kernel)) (goodIn_sub (fun w h => List.mem_cons_of_mem _ (List.mem_append_right _ (List.mem_append_right _ (List.mem_append_left _ h)))) gd_X3_dirtAt_in)
set_option maxHeartbeats 4000000 in
set_option maxRecDepth 100000 in
theorem c_X3_isPlainOne (l : Launch) (D : va_G) (kA : Nat → ClassId) (z : Nat) (h0 a1 a2 a3 a4 n : Nat) (ah : Int32) (i : Nat) (fb fd : Nat → Int32) (h1 : n ≤ 400) (hi : i < n) : mI l D (tyL kA) z yX3_isPlainOne wq_X3_isPlainOne ({ frames := 2, cells := 0, slots := 0, locals := 43 }) [.ref h0, .int (nI i)] [(h0, .inr (2, [.ref a1, .ref a2, .ref a3, .ref a4, .int (nI n), .int ah])), (a1, .inl (kA 0, 400, .inl fb)), (a4, .inl (kA 0, 400, .inl fd))] (fun r w => ∃ (b : Nat), w = [(h0, .inr (2, [.ref a1, .ref a2, .ref a3, .ref a4, .int (nI n), .int ah])), (a1, .inl (kA 0, 400, .inl fb)), (a4, .inl (kA 0, 400, .inl fd))] ∧ (b ≤ 1) ∧ (r = nI b)) := by
  refine ofI (cc := cX3_isPlainOne) (maxL := 2) RX3 rfl (by decide +kernel) rfl (Nat.le_of_ble_eq_true rfl) ?_
  intro p e s m args below meth c A ls hE
  obtain ⟨hx, hb, hr, hml, hts, hown, hlocks, hA, hS, hP, hK, hD, hG, hl⟩ := hE
  have hl : lv_has ls 2 [(0, .ref h0), (1, .int (nI i))] := hl
  have hH : s.heap = s.heap := rfl
  refine lv_aload_n hx hb dX3_isPlainOne_0 rfl (lv_at hl 0 rfl) ?_
  refine lv_iload_n hx hb dX3_isPlainOne_1 rfl (lv_at hl 1 rfl) ?_
  have hF := va_free (wc := [(h0, .inr (2, [.ref a1, .ref a2, .ref a3, .ref a4, .int (nI n), .int ah])), (a1, .inl (kA 0, 400, .inl fb))]) hD hS hA [0, 1] rfl
  refine va_calli (va_runV (As := [.int (nI i)]) (rest := []) ⟨hx, hb, hml, hown, hts⟩ (c_X3_bitAt_in l D kA z h0 a1 a2 a3 a4 n ah i fb (by first | assumption | omega) (by first | assumption | omega) _) (cwV 1 hts h_X3_isPlainOne_0 rfl rfl rfl (by decide +kernel) ⟨Nat.le_of_ble_eq_true rfl, Nat.le_of_ble_eq_true rfl⟩) (fPv hK hP hD hS hG hF [0, 1] (by decide) rfl 0 2 rfl rfl rfl) rfl rfl hl.1 rfl (lv_room (Nat.le_of_ble_eq_true rfl)) dX3_isPlainOne_2 ⟨Nat.le_of_ble_eq_true rfl, Nat.le_of_ble_eq_true rfl⟩) hS (fun q _ h => hF q h) hF (fun r_1 w1 t H locs ht hvm hw hB hz1 hk1 hS => ?_)
  obtain ⟨hP, hD⟩ := fJ (wr := [(a4, .inl (kA 0, 400, .inl fd))]) hP hD [0, 1] [2] rfl rfl (by decide) (by decide) hk1 hF ht hB
  try dsimp only at hw
  obtain ⟨rfl, e_1⟩ := hw
  have hP : va_P D vwCl [(a4, .inl (kA 0, 400, .inl fd)), (h0, .inr (2, [.ref a1, .ref a2, .ref a3, .ref a4, .int (nI n), .int ah])), (a1, .inl (kA 0, 400, .inl fb))] H := hP
  have hD : va_D A [(a4, .inl (kA 0, 400, .inl fd)), (h0, .inr (2, [.ref a1, .ref a2, .ref a3, .ref a4, .int (nI n), .int ah])), (a1, .inl (kA 0, 400, .inl fb))] := hD
  refine lv_iconst (v := nI 1) hx hb dX3_isPlainOne_5 (by decide) ?_
  refine lv_icmp_ne (tgt := 21) hx hb dX3_isPlainOne_6 (by decide) (fun c6 => ?_) (fun c6 => ?_)
  ·
    refine lv_iconst (v := nI 0) hx hb dX3_isPlainOne_21 (by decide) ?_
    have hP := hP.sub (ws' := [(h0, .inr (2, [.ref a1, .ref a2, .ref a3, .ref a4, .int (nI n), .int ah])), (a1, .inl (kA 0, 400, .inl fb)), (a4, .inl (kA 0, 400, .inl fd))]) [1, 2, 0] rfl
    have hD := hD.sub (ws' := [(h0, .inr (2, [.ref a1, .ref a2, .ref a3, .ref a4, .int (nI n), .int ah])), (a1, .inl (kA 0, 400, .inl fb)), (a4, .inl (kA 0, 400, .inl fd))]) [1, 2, 0] (by decide) rfl
    exact endZ hx hb hr hlocks (rfl) hK hP hD hS (⟨0, rfl, by first | rfl | assumption | omega | (rw [if_pos (by omega)]; first | done | rfl) | (rw [if_neg (by omega)]; first | done | rfl), by first | rfl | assumption | omega | (rw [if_pos (by omega)]; first | done | rfl) | (rw [if_neg (by omega)]; first | done | rfl)⟩) (Nat.le_of_ble_eq_true rfl) (Nat.le_of_ble_eq_true rfl) dX3_isPlainOne_22
  ·
    refine lv_aload_n hx hb dX3_isPlainOne_9 rfl (lv_at hl 0 rfl) ?_
    refine lv_iload_n hx hb dX3_isPlainOne_10 rfl (lv_at hl 1 rfl) ?_
    have hF := va_free (wc := [(h0, .inr (2, [.ref a1, .ref a2, .ref a3, .ref a4, .int (nI n), .int ah])), (a4, .inl (kA 0, 400, .inl fd))]) hD hS hA [1, 0] rfl
    refine va_calli (va_runV (As := [.int (nI i)]) (rest := []) ⟨hx, hb, hml, hown, hts⟩ (c_X3_dirtAt_in l D kA z h0 a1 a2 a3 a4 n ah i fd (by first | assumption | omega) (by first | assumption | omega) _) (cwV 1 hts h_X3_isPlainOne_1 rfl rfl rfl (by decide +kernel) ⟨Nat.le_of_ble_eq_true rfl, Nat.le_of_ble_eq_true rfl⟩) (fPv hK hP hD hS hG hF [1, 0] (by decide) rfl 1 2 rfl rfl rfl) rfl rfl hl.1 rfl (lv_room (Nat.le_of_ble_eq_true rfl)) dX3_isPlainOne_11 ⟨Nat.le_of_ble_eq_true rfl, Nat.le_of_ble_eq_true rfl⟩) hS (fun q _ h => hF q h) hF (fun r_2 w1 t H locs ht hvm hw hB hz1 hk1 hS => ?_)
    obtain ⟨hP, hD⟩ := fJ (wr := [(a1, .inl (kA 0, 400, .inl fb))]) hP hD [1, 0] [2] rfl rfl (by decide) (by decide) hk1 hF ht hB
    try dsimp only at hw
    obtain ⟨rfl, e_2⟩ := hw
    have hP : va_P D vwCl [(a1, .inl (kA 0, 400, .inl fb)), (h0, .inr (2, [.ref a1, .ref a2, .ref a3, .ref a4, .int (nI n), .int ah])), (a4, .inl (kA 0, 400, .inl fd))] H := hP
    have hD : va_D A [(a1, .inl (kA 0, 400, .inl fb)), (h0, .inr (2, [.ref a1, .ref a2, .ref a3, .ref a4, .int (nI n), .int ah])), (a4, .inl (kA 0, 400, .inl fd))] := hD
    refine lv_if_ne (tgt := 21) hx hb dX3_isPlainOne_14 (by decide) (fun c14 => ?_) (fun c14 => ?_)
    ·
      refine lv_iconst (v := nI 0) hx hb dX3_isPlainOne_21 (by decide) ?_
      have hP := hP.sub (ws' := [(h0, .inr (2, [.ref a1, .ref a2, .ref a3, .ref a4, .int (nI n), .int ah])), (a1, .inl (kA 0, 400, .inl fb)), (a4, .inl (kA 0, 400, .inl fd))]) [1, 0, 2] rfl
      have hD := hD.sub (ws' := [(h0, .inr (2, [.ref a1, .ref a2, .ref a3, .ref a4, .int (nI n), .int ah])), (a1, .inl (kA 0, 400, .inl fb)), (a4, .inl (kA 0, 400, .inl fd))]) [1, 0, 2] (by decide) rfl
      exact endZ hx hb hr hlocks (rfl) hK hP hD hS (⟨0, rfl, by first | rfl | assumption | omega | (rw [if_pos (by omega)]; first | done | rfl) | (rw [if_neg (by omega)]; first | done | rfl), by first | rfl | assumption | omega | (rw [if_pos (by omega)]; first | done | rfl) | (rw [if_neg (by omega)]; first | done | rfl)⟩) (Nat.le_of_ble_eq_true rfl) (Nat.le_of_ble_eq_true rfl) dX3_isPlainOne_22
    ·
      refine lv_iconst (v := nI 1) hx hb dX3_isPlainOne_17 (by decide) ?_
      refine lv_goto (tgt := 22) hx hb dX3_isPlainOne_18 (by decide) ?_
      have hP := hP.sub (ws' := [(h0, .inr (2, [.ref a1, .ref a2, .ref a3, .ref a4, .int (nI n), .int ah])), (a1, .inl (kA 0, 400, .inl fb)), (a4, .inl (kA 0, 400, .inl fd))]) [1, 0, 2] rfl
      have hD := hD.sub (ws' := [(h0, .inr (2, [.ref a1, .ref a2, .ref a3, .ref a4, .int (nI n), .int ah])), (a1, .inl (kA 0, 400, .inl fb)), (a4, .inl (kA 0, 400, .inl fd))]) [1, 0, 2] (by decide) rfl
      exact endZ hx hb hr hlocks (rfl) hK hP hD hS (⟨1, rfl, by first | rfl | assumption | omega | (rw [if_pos (by omega)]; first | done | rfl) | (rw [if_neg (by omega)]; first | done | rfl), by first | rfl | assumption | omega | (rw [if_pos (by omega)]; first | done | rfl) | (rw [if_neg (by omega)]; first | done | rfl)⟩) (Nat.le_of_ble_eq_true rfl) (Nat.le_of_ble_eq_true rfl) dX3_isPlainOne_22

def wq_X3_soil : List Cond := .code yX3_soil cX3_soil 4 none :: (([.methodLink RX3 66 Lib.Math.max.name, .static Lib.Math.max.name, .initialized "java/lang/Math", .code Lib.Math.max.name Lib.Math.max.code 2 (some .int), .fieldLink RX3 25 "FluxBench$Surface" "length" "I", .methodLink RX3 57 yX3_dirtAt, .instanceMethod yX3_dirtAt, .selects RX3 yX3_dirtAt yX3_dirtAt, .initialized RX3, .methodLink RX3 72 yX3_setDirt, .instanceMethod yX3_setDirt, .selects RX3 yX3_setDirt yX3_setDirt] : List Cond) ++ (u_ws RX3 TX3 6 ++ (wq_X3_dirtAt_in ++ (wq_X3_setDirt_in ++ ([] : List Cond)))))
theorem gd_X3_soil : wq_X3_soil.all goodWord = true := by decide +kernel
theorem n_X3_soil_X3 : ∀ w ∈ u_ws RX3 TX3 6, w ∈ wq_X3_soil := fun w h => List.mem_cons_of_mem _ (List.mem_append_right _ (List.mem_append_left _ h))
theorem h_X3_soil_0 : GoodIn wq_X3_soil (wsV RX3 57 RX3 yX3_dirtAt wq_X3_dirtAt_in) := goodIn_app (goodIn_r _ [6, 7, 8, 9] (by decide +kernel) (by decide +kernel)) (goodIn_sub (fun w h => List.mem_cons_of_mem _ (List.mem_append_right _ (List.mem_append_right _ (List.mem_append_left _ h)))) gd_X3_dirtAt_in)
theorem h_X3_soil_1 : GoodIn wq_X3_soil (wsV RX3 72 RX3 yX3_setDirt wq_X3_setDirt_in) := goodIn_app (goodIn_r _ [10, 11, 12, 9] (by decide +kernel) (by decide +kernel)) (goodIn_sub (fun w h => List.mem_cons_of_mem _ (List.mem_append_right _ (List.mem_append_right _ (List.mem_append_right _ (List.mem_append_left _ h))))) gd_X3_setDirt_in)
set_option maxHeartbeats 4000000 in
set_option maxRecDepth 100000 in
theorem c_X3_soil (l : Launch) (D : va_G) (kA : Nat → ClassId) (z : Nat) (h0 a1 a2 a3 a4 n : Nat) (ah : Int32) (p0 p1 : Nat) (fd : Nat → Int32) (h1 : n ≤ 400) (h0n : p0 < n) (h1n : p1 < n) : mV l D (tyL kA) z yX3_soil wq_X3_soil ({ frames := 2, cells := 0, slots := 0, locals := 43 }) [.ref h0, .int (nI p0), .int (nI p1)] [(h0, .inr (2, [.ref a1, .ref a2, .ref a3, .ref a4, .int (nI n), .int ah])), (a4, .inl (kA 0, 400, .inl fd))] (fun w => ∃ (fd2 : Nat → Int32), w = [(h0, .inr (2, [.ref a1, .ref a2, .ref a3, .ref a4, .int (nI n), .int ah])), (a4, .inl (kA 0, 400, .inl fd2))] ∧ (∀ j, fd2 j = soF p0 (max p0 (p1 + 1)) fd j)) := by
  refine ofV (cc := cX3_soil) (maxL := 4) RX3 rfl (by decide +kernel) rfl (Nat.le_of_ble_eq_true rfl) ?_
  intro p e s m args below meth c A ls hnm hE
  obtain ⟨hx, hb, hr, hml, hts, hown, hlocks, hA, hS, hP, hK, hD, hG, hl⟩ := hE
  have hl : lv_has ls 4 [(0, .ref h0), (1, .int (nI p0)), (2, .int (nI p1))] := hl
  have hH : s.heap = s.heap := rfl
  refine lv_iconst (v := nI 0) hx hb dX3_soil_0 (by decide) ?_
  refine lv_iload_n hx hb dX3_soil_1 rfl (lv_at hl 1 rfl) ?_
  refine va_mmax hx hb (by rw [hml]; exact hl.1.symm) hown (wAt hts 1 (w := .methodLink RX3 66 Lib.Math.max.name) rfl) (wAt hts 2 (w := .static Lib.Math.max.name) rfl) (wAt hts 3 (w := .initialized "java/lang/Math") rfl) (wAt hts 4 (w := .code Lib.Math.max.name Lib.Math.max.code 2 (some .int)) rfl) (Nat.le_of_ble_eq_true rfl) (Nat.le_of_ble_eq_true rfl) (Nat.le_of_ble_eq_true rfl) (Nat.le_of_ble_eq_true rfl) dX3_soil_2 ?_
  rw [qmax (a := 0) (b := p0) (by omega) (by omega)]
  rw [show max 0 p0 = p0 from by omega]
  refine lv_istore_n (lv' := [(3, .int (nI p0)), (0, .ref h0), (1, .int (nI p0)), (2, .int (nI p1))]) hx hb dX3_soil_5 rfl hl (by decide) rfl (fun ls hl => ?_)
  have lp_6 : ∀ (n_6 : Nat) (i : Nat) (g : Nat → Int32), p1 + 1 - i < n_6 → (p0 ≤ i) → (i ≤ max p0 (p1 + 1)) → (∀ j, g j = soF p0 i fd j) → ∀ (H : Heap) (locs : List Loc) (ls : Array Slot), va_P D vwCl [(h0, .inr (2, [.ref a1, .ref a2, .ref a3, .ref a4, .int (nI n), .int ah])), (a4, .inl (kA 0, 400, .inl g))] H → va_D A [(h0, .inr (2, [.ref a1, .ref a2, .ref a3, .ref a4, .int (nI n), .int ah])), (a4, .inl (kA 0, 400, .inl g))] → va_S A s.heap H locs → lv_has ls 4 [(3, .int (nI i)), (0, .ref h0), (1, .int (nI p0)), (2, .int (nI p1))] → W p l e ({ frames := 2, cells := 0, slots := 0, locals := 43 }) s m args below meth c H locs 0 0 (MQ below (va_Qv (fun w => ∃ (fd2 : Nat → Int32), w = [(h0, .inr (2, [.ref a1, .ref a2, .ref a3, .ref a4, .int (nI n), .int ah])), (a4, .inl (kA 0, 400, .inl fd2))] ∧ (∀ j, fd2 j = soF p0 (max p0 (p1 + 1)) fd j)) (fB D (tyL kA) A) A) args s 0 0 A) (F0 m 6 ls []) := by
    clear hP hD hS hl
    intro n_6
    induction n_6 with
    | zero =>
      intro i g hm_6 hi0 hi1 hg
      exact absurd hm_6 (by omega)
    | succ n_6 ih_6 =>
      intro i g hm_6 hi0 hi1 hg H locs ls hP hD hS hl
      refine lv_iload_n hx hb dX3_soil_6 rfl (lv_at hl 0 rfl) ?_
      refine lv_iload_n hx hb dX3_soil_7 rfl (lv_at hl 3 rfl) ?_
      refine lv_icmp_gt (tgt := 39) hx hb dX3_soil_8 (by decide) (fun c8 => ?_) (fun c8 => ?_)
      ·
        rw [qlt (a := p1) (b := i) (by omega) (by omega)] at c8
        exact endV hx hb hr hlocks hK hP hD hS (⟨g, rfl, by rw [show max p0 (p1 + 1) = i from by omega]; exact hg⟩) (Nat.le_of_ble_eq_true rfl) (Nat.le_of_ble_eq_true rfl) dX3_soil_39
      ·
        rw [qlt (a := p1) (b := i) (by omega) (by omega)] at c8
        refine lv_iload_n hx hb dX3_soil_11 rfl (lv_at hl 0 rfl) ?_
        refine lv_aload_n hx hb dX3_soil_12 rfl (lv_at hl 1 rfl) ?_
        refine va_get (D := D) (ci := 2) (v := .int (nI n)) (C := RX3) (T := TX3) (N := 6) hx hb hts n_X3_soil_X3 hown hK hP 0 rfl rfl 4 (by decide) (wAt hts 5 (w := .fieldLink RX3 25 "FluxBench$Surface" "length" "I") rfl) (fun _ h9 => h9) rfl dX3_soil_13 ?_
        refine lv_icmp_ge (tgt := 39) hx hb dX3_soil_16 (by decide) (fun c16 => False.elim (by rw [qle (a := n) (b := i) (by omega) (by omega)] at c16; omega)) (fun _ => ?_)
        refine lv_aload_n hx hb dX3_soil_19 rfl (lv_at hl 1 rfl) ?_
        refine lv_iload_n hx hb dX3_soil_20 rfl (lv_at hl 0 rfl) ?_
        have hF := va_free (wc := [(h0, .inr (2, [.ref a1, .ref a2, .ref a3, .ref a4, .int (nI n), .int ah])), (a4, .inl (kA 0, 400, .inl g))]) hD hS hA [0, 1] rfl
        refine va_calli (va_runV (As := [.int (nI i)]) (rest := []) ⟨hx, hb, hml, hown, hts⟩ (c_X3_dirtAt_in l D kA z h0 a1 a2 a3 a4 n ah i g (by first | assumption | omega) (by first | assumption | omega) _) (cwV 1 hts h_X3_soil_0 rfl rfl rfl (by decide +kernel) ⟨Nat.le_of_ble_eq_true rfl, Nat.le_of_ble_eq_true rfl⟩) (fPv hK hP hD hS hG hF [0, 1] (by decide) rfl 0 2 rfl rfl rfl) rfl rfl hl.1 rfl (lv_room (Nat.le_of_ble_eq_true rfl)) dX3_soil_21 ⟨Nat.le_of_ble_eq_true rfl, Nat.le_of_ble_eq_true rfl⟩) hS (fun q _ h => hF q h) hF (fun r_1 w1 t H locs ht hvm hw hB hz1 hk1 hS => ?_)
        obtain ⟨hP, hD⟩ := fJ (wr := []) hP hD [0, 1] [] rfl rfl (by decide) (by decide) hk1 hF ht hB
        try dsimp only at hw
        obtain ⟨rfl, e_1⟩ := hw
        have hP : va_P D vwCl [(h0, .inr (2, [.ref a1, .ref a2, .ref a3, .ref a4, .int (nI n), .int ah])), (a4, .inl (kA 0, 400, .inl g))] H := hP
        have hD : va_D A [(h0, .inr (2, [.ref a1, .ref a2, .ref a3, .ref a4, .int (nI n), .int ah])), (a4, .inl (kA 0, 400, .inl g))] := hD
        refine lv_if_ne (tgt := 33) hx hb dX3_soil_24 (by decide) (fun c24 => ?_) (fun c24 => ?_)
        ·
          refine lv_iinc (v := nI (i + 1)) (lv' := [(3, .int (nI (i + 1))), (0, .ref h0), (1, .int (nI p0)), (2, .int (nI p1))]) hx hb dX3_soil_33 hl (k := 0) rfl (nI_add i 1) (by decide) rfl (fun ls hl => ?_)
          refine lv_goto (tgt := 6) hx hb dX3_soil_36 (by decide) ?_
          exact ih_6 (i + 1) g (by omega) (by first | assumption | omega | rfl) (by first | assumption | omega | rfl) (soF_keep hg (by rw [← e_1]; exact c24)) _ _ _ (hP.sub [0, 1] rfl) (hD.sub [0, 1] (by decide) rfl) hS (lv_sub hl [0, 1, 2, 3] rfl)
        ·
          refine lv_aload_n hx hb dX3_soil_27 rfl (lv_at hl 1 rfl) ?_
          refine lv_iload_n hx hb dX3_soil_28 rfl (lv_at hl 0 rfl) ?_
          refine lv_iconst (v := nI 1) hx hb dX3_soil_29 (by decide) ?_
          have hF := va_free (wc := [(h0, .inr (2, [.ref a1, .ref a2, .ref a3, .ref a4, .int (nI n), .int ah])), (a4, .inl (kA 0, 400, .inl g))]) hD hS hA [0, 1] rfl
          refine va_callv (va_runV (As := [.int (nI i), .int (nI 1)]) (rest := []) ⟨hx, hb, hml, hown, hts⟩ (c_X3_setDirt_in l D kA z h0 a1 a2 a3 a4 n ah i (nI 1) g (by first | assumption | omega) (by first | assumption | omega) _) (cwV 2 hts h_X3_soil_1 rfl rfl rfl (by decide +kernel) ⟨Nat.le_of_ble_eq_true rfl, Nat.le_of_ble_eq_true rfl⟩) (fPv hK hP hD hS hG hF [0, 1] (by decide) rfl 0 2 rfl rfl rfl) rfl rfl hl.1 rfl (lv_room (Nat.le_of_ble_eq_true rfl)) dX3_soil_30 ⟨Nat.le_of_ble_eq_true rfl, Nat.le_of_ble_eq_true rfl⟩) hS (fun q _ h => hF q h) hF (fun w1 t H locs ht hvm hw hB hz1 hk1 hS => ?_)
          obtain ⟨hP, hD⟩ := fJ (wr := []) hP hD [0, 1] [] rfl rfl (by decide) (by decide) hk1 hF ht hB
          try dsimp only at hw
          subst hw
          have hP : va_P D vwCl [(h0, .inr (2, [.ref a1, .ref a2, .ref a3, .ref a4, .int (nI n), .int ah])), (a4, .inl (kA 0, 400, .inl (upd g i (nI 1))))] H := hP
          have hD : va_D A [(h0, .inr (2, [.ref a1, .ref a2, .ref a3, .ref a4, .int (nI n), .int ah])), (a4, .inl (kA 0, 400, .inl (upd g i (nI 1))))] := hD
          refine lv_iinc (v := nI (i + 1)) (lv' := [(3, .int (nI (i + 1))), (0, .ref h0), (1, .int (nI p0)), (2, .int (nI p1))]) hx hb dX3_soil_33 hl (k := 0) rfl (nI_add i 1) (by decide) rfl (fun ls hl => ?_)
          refine lv_goto (tgt := 6) hx hb dX3_soil_36 (by decide) ?_
          exact ih_6 (i + 1) (upd g i (nI 1)) (by omega) (by first | assumption | omega | rfl) (by first | assumption | omega | rfl) (soF_set hi0 hg (by rw [← e_1]; exact c24)) _ _ _ (hP.sub [0, 1] rfl) (hD.sub [0, 1] (by decide) rfl) hS (lv_sub hl [0, 1, 2, 3] rfl)
  exact lp_6 (p1 + 2) p0 fd (by omega) (by first | assumption | omega | rfl) (by first | assumption | omega | rfl) (soF_0 _ _) _ _ _ (hP.sub [0, 1] rfl) (hD.sub [0, 1] (by decide) rfl) hS (lv_sub hl [0, 1, 2, 3] rfl)

def wq_X3_wipe : List Cond := .code yX3_wipe cX3_wipe 2 none :: (([.fieldLink RX3 25 "FluxBench$Surface" "length" "I", .methodLink RX3 57 yX3_dirtAt, .instanceMethod yX3_dirtAt, .selects RX3 yX3_dirtAt yX3_dirtAt, .initialized RX3, .methodLink RX3 72 yX3_setDirt, .instanceMethod yX3_setDirt, .selects RX3 yX3_setDirt yX3_setDirt] : List Cond) ++ (u_ws RX3 TX3 6 ++ (wq_X3_dirtAt_in ++ (wq_X3_setDirt_in ++ ([] : List Cond)))))
theorem gd_X3_wipe : wq_X3_wipe.all goodWord = true := by decide +kernel
theorem n_X3_wipe_X3 : ∀ w ∈ u_ws RX3 TX3 6, w ∈ wq_X3_wipe := fun w h => List.mem_cons_of_mem _ (List.mem_append_right _ (List.mem_append_left _ h))
theorem h_X3_wipe_0 : GoodIn wq_X3_wipe (wsV RX3 57 RX3 yX3_dirtAt wq_X3_dirtAt_in) := goodIn_app (goodIn_r _ [2, 3, 4, 5] (by decide +kernel) (by decide +kernel)) (goodIn_sub (fun w h => List.mem_cons_of_mem _ (List.mem_append_right _ (List.mem_append_right _ (List.mem_append_left _ h)))) gd_X3_dirtAt_in)
theorem h_X3_wipe_1 : GoodIn wq_X3_wipe (wsV RX3 72 RX3 yX3_setDirt wq_X3_setDirt_in) := goodIn_app (goodIn_r _ [6, 7, 8, 5] (by decide +kernel) (by decide +kernel)) (goodIn_sub (fun w h => List.mem_cons_of_mem _ (List.mem_append_right _ (List.mem_append_right _ (List.mem_append_right _ (List.mem_append_left _ h))))) gd_X3_setDirt_in)
set_option maxHeartbeats 4000000 in
set_option maxRecDepth 100000 in
theorem c_X3_wipe (l : Launch) (D : va_G) (kA : Nat → ClassId) (z : Nat) (h0 a1 a2 a3 a4 n : Nat) (ah : Int32) (fd : Nat → Int32) (h1 : n ≤ 400) : mV l D (tyL kA) z yX3_wipe wq_X3_wipe ({ frames := 2, cells := 0, slots := 0, locals := 43 }) [.ref h0] [(h0, .inr (2, [.ref a1, .ref a2, .ref a3, .ref a4, .int (nI n), .int ah])), (a4, .inl (kA 0, 400, .inl fd))] (fun w => ∃ (fd2 : Nat → Int32), w = [(h0, .inr (2, [.ref a1, .ref a2, .ref a3, .ref a4, .int (nI n), .int ah])), (a4, .inl (kA 0, 400, .inl fd2))] ∧ (∀ j, fd2 j = wiF n fd j)) := by
  refine ofV (cc := cX3_wipe) (maxL := 2) RX3 rfl (by decide +kernel) rfl (Nat.le_of_ble_eq_true rfl) ?_
  intro p e s m args below meth c A ls hnm hE
  obtain ⟨hx, hb, hr, hml, hts, hown, hlocks, hA, hS, hP, hK, hD, hG, hl⟩ := hE
  have hl : lv_has ls 2 [(0, .ref h0)] := hl
  have hH : s.heap = s.heap := rfl
  refine lv_iconst (v := nI 0) hx hb dX3_wipe_0 (by decide) ?_
  refine lv_istore_n (lv' := [(1, .int (nI 0)), (0, .ref h0)]) hx hb dX3_wipe_1 rfl hl (by decide) rfl (fun ls hl => ?_)
  have lp_2 : ∀ (n_2 : Nat) (i : Nat) (g : Nat → Int32), n - i < n_2 → (i ≤ n) → (∀ j, g j = wiF i fd j) → ∀ (H : Heap) (locs : List Loc) (ls : Array Slot), va_P D vwCl [(h0, .inr (2, [.ref a1, .ref a2, .ref a3, .ref a4, .int (nI n), .int ah])), (a4, .inl (kA 0, 400, .inl g))] H → va_D A [(h0, .inr (2, [.ref a1, .ref a2, .ref a3, .ref a4, .int (nI n), .int ah])), (a4, .inl (kA 0, 400, .inl g))] → va_S A s.heap H locs → lv_has ls 2 [(1, .int (nI i)), (0, .ref h0)] → W p l e ({ frames := 2, cells := 0, slots := 0, locals := 43 }) s m args below meth c H locs 0 0 (MQ below (va_Qv (fun w => ∃ (fd2 : Nat → Int32), w = [(h0, .inr (2, [.ref a1, .ref a2, .ref a3, .ref a4, .int (nI n), .int ah])), (a4, .inl (kA 0, 400, .inl fd2))] ∧ (∀ j, fd2 j = wiF n fd j)) (fB D (tyL kA) A) A) args s 0 0 A) (F0 m 2 ls []) := by
    clear hP hD hS hl
    intro n_2
    induction n_2 with
    | zero =>
      intro i g hm_2 hi1 hg
      exact absurd hm_2 (by omega)
    | succ n_2 ih_2 =>
      intro i g hm_2 hi1 hg H locs ls hP hD hS hl
      refine lv_iload_n hx hb dX3_wipe_2 rfl (lv_at hl 0 rfl) ?_
      refine lv_aload_n hx hb dX3_wipe_3 rfl (lv_at hl 1 rfl) ?_
      refine va_get (D := D) (ci := 2) (v := .int (nI n)) (C := RX3) (T := TX3) (N := 6) hx hb hts n_X3_wipe_X3 hown hK hP 0 rfl rfl 4 (by decide) (wAt hts 1 (w := .fieldLink RX3 25 "FluxBench$Surface" "length" "I") rfl) (fun _ h9 => h9) rfl dX3_wipe_4 ?_
      refine lv_icmp_ge (tgt := 31) hx hb dX3_wipe_7 (by decide) (fun c7 => ?_) (fun c7 => ?_)
      ·
        rw [qle (a := n) (b := i) (by omega) (by omega)] at c7
        exact endV hx hb hr hlocks hK hP hD hS (⟨g, rfl, by rw [show n = i from by omega]; exact hg⟩) (Nat.le_of_ble_eq_true rfl) (Nat.le_of_ble_eq_true rfl) dX3_wipe_31
      ·
        rw [qle (a := n) (b := i) (by omega) (by omega)] at c7
        refine lv_aload_n hx hb dX3_wipe_10 rfl (lv_at hl 1 rfl) ?_
        refine lv_iload_n hx hb dX3_wipe_11 rfl (lv_at hl 0 rfl) ?_
        have hF := va_free (wc := [(h0, .inr (2, [.ref a1, .ref a2, .ref a3, .ref a4, .int (nI n), .int ah])), (a4, .inl (kA 0, 400, .inl g))]) hD hS hA [0, 1] rfl
        refine va_calli (va_runV (As := [.int (nI i)]) (rest := []) ⟨hx, hb, hml, hown, hts⟩ (c_X3_dirtAt_in l D kA z h0 a1 a2 a3 a4 n ah i g (by first | assumption | omega) (by first | assumption | omega) _) (cwV 1 hts h_X3_wipe_0 rfl rfl rfl (by decide +kernel) ⟨Nat.le_of_ble_eq_true rfl, Nat.le_of_ble_eq_true rfl⟩) (fPv hK hP hD hS hG hF [0, 1] (by decide) rfl 0 2 rfl rfl rfl) rfl rfl hl.1 rfl (lv_room (Nat.le_of_ble_eq_true rfl)) dX3_wipe_12 ⟨Nat.le_of_ble_eq_true rfl, Nat.le_of_ble_eq_true rfl⟩) hS (fun q _ h => hF q h) hF (fun r_1 w1 t H locs ht hvm hw hB hz1 hk1 hS => ?_)
        obtain ⟨hP, hD⟩ := fJ (wr := []) hP hD [0, 1] [] rfl rfl (by decide) (by decide) hk1 hF ht hB
        try dsimp only at hw
        obtain ⟨rfl, e_1⟩ := hw
        have hP : va_P D vwCl [(h0, .inr (2, [.ref a1, .ref a2, .ref a3, .ref a4, .int (nI n), .int ah])), (a4, .inl (kA 0, 400, .inl g))] H := hP
        have hD : va_D A [(h0, .inr (2, [.ref a1, .ref a2, .ref a3, .ref a4, .int (nI n), .int ah])), (a4, .inl (kA 0, 400, .inl g))] := hD
        refine lv_iconst (v := nI 3) hx hb dX3_wipe_15 (by decide) ?_
        refine lv_icmp_eq (tgt := 25) hx hb dX3_wipe_16 (by decide) (fun c16 => ?_) (fun c16 => ?_)
        ·
          refine lv_iinc (v := nI (i + 1)) (lv' := [(1, .int (nI (i + 1))), (0, .ref h0)]) hx hb dX3_wipe_25 hl (k := 0) rfl (nI_add i 1) (by decide) rfl (fun ls hl => ?_)
          refine lv_goto (tgt := 2) hx hb dX3_wipe_28 (by decide) ?_
          exact ih_2 (i + 1) g (by omega) (by first | assumption | omega | rfl) (wiF_keep hg (by rw [← e_1]; exact c16)) _ _ _ (hP.sub [0, 1] rfl) (hD.sub [0, 1] (by decide) rfl) hS (lv_sub hl [0, 1] rfl)
        ·
          refine lv_aload_n hx hb dX3_wipe_19 rfl (lv_at hl 1 rfl) ?_
          refine lv_iload_n hx hb dX3_wipe_20 rfl (lv_at hl 0 rfl) ?_
          refine lv_iconst (v := nI 0) hx hb dX3_wipe_21 (by decide) ?_
          have hF := va_free (wc := [(h0, .inr (2, [.ref a1, .ref a2, .ref a3, .ref a4, .int (nI n), .int ah])), (a4, .inl (kA 0, 400, .inl g))]) hD hS hA [0, 1] rfl
          refine va_callv (va_runV (As := [.int (nI i), .int (nI 0)]) (rest := []) ⟨hx, hb, hml, hown, hts⟩ (c_X3_setDirt_in l D kA z h0 a1 a2 a3 a4 n ah i (nI 0) g (by first | assumption | omega) (by first | assumption | omega) _) (cwV 2 hts h_X3_wipe_1 rfl rfl rfl (by decide +kernel) ⟨Nat.le_of_ble_eq_true rfl, Nat.le_of_ble_eq_true rfl⟩) (fPv hK hP hD hS hG hF [0, 1] (by decide) rfl 0 2 rfl rfl rfl) rfl rfl hl.1 rfl (lv_room (Nat.le_of_ble_eq_true rfl)) dX3_wipe_22 ⟨Nat.le_of_ble_eq_true rfl, Nat.le_of_ble_eq_true rfl⟩) hS (fun q _ h => hF q h) hF (fun w1 t H locs ht hvm hw hB hz1 hk1 hS => ?_)
          obtain ⟨hP, hD⟩ := fJ (wr := []) hP hD [0, 1] [] rfl rfl (by decide) (by decide) hk1 hF ht hB
          try dsimp only at hw
          subst hw
          have hP : va_P D vwCl [(h0, .inr (2, [.ref a1, .ref a2, .ref a3, .ref a4, .int (nI n), .int ah])), (a4, .inl (kA 0, 400, .inl (upd g i (nI 0))))] H := hP
          have hD : va_D A [(h0, .inr (2, [.ref a1, .ref a2, .ref a3, .ref a4, .int (nI n), .int ah])), (a4, .inl (kA 0, 400, .inl (upd g i (nI 0))))] := hD
          refine lv_iinc (v := nI (i + 1)) (lv' := [(1, .int (nI (i + 1))), (0, .ref h0)]) hx hb dX3_wipe_25 hl (k := 0) rfl (nI_add i 1) (by decide) rfl (fun ls hl => ?_)
          refine lv_goto (tgt := 2) hx hb dX3_wipe_28 (by decide) ?_
          exact ih_2 (i + 1) (upd g i (nI 0)) (by omega) (by first | assumption | omega | rfl) (wiF_set hg (by rw [← e_1]; exact c16)) _ _ _ (hP.sub [0, 1] rfl) (hD.sub [0, 1] (by decide) rfl) hS (lv_sub hl [0, 1] rfl)
  exact lp_2 (n + 1) 0 fd (by omega) (by first | assumption | omega | rfl) (wiF_0 _) _ _ _ (hP.sub [0, 1] rfl) (hD.sub [0, 1] (by decide) rfl) hS (lv_sub hl [0, 1] rfl)

def wq_X3_wear : List Cond := .code yX3_wear cX3_wear 3 none :: (([.methodLink RX3 57 yX3_dirtAt, .instanceMethod yX3_dirtAt, .selects RX3 yX3_dirtAt yX3_dirtAt, .initialized RX3, .methodLink RX3 72 yX3_setDirt, .instanceMethod yX3_setDirt, .selects RX3 yX3_setDirt yX3_setDirt] : List Cond) ++ (wq_X3_dirtAt_in ++ (wq_X3_setDirt_in ++ ([] : List Cond))))
theorem gd_X3_wear : wq_X3_wear.all goodWord = true := by decide +kernel
theorem h_X3_wear_0 : GoodIn wq_X3_wear (wsV RX3 57 RX3 yX3_dirtAt wq_X3_dirtAt_in) := goodIn_app (goodIn_r _ [1, 2, 3, 4] (by decide +kernel) (by decide +kernel)) (goodIn_sub (fun w h => List.mem_cons_of_mem _ (List.mem_append_right _ (List.mem_append_left _ h))) gd_X3_dirtAt_in)
theorem h_X3_wear_1 : GoodIn wq_X3_wear (wsV RX3 72 RX3 yX3_setDirt wq_X3_setDirt_in) := goodIn_app (goodIn_r _ [5, 6, 7, 4] (by decide +kernel) (by decide +kernel)) (goodIn_sub (fun w h => List.mem_cons_of_mem _ (List.mem_append_right _ (List.mem_append_right _ (List.mem_append_left _ h)))) gd_X3_setDirt_in)
set_option maxHeartbeats 4000000 in
set_option maxRecDepth 100000 in
theorem c_X3_wear (l : Launch) (D : va_G) (kA : Nat → ClassId) (z : Nat) (h0 a1 a2 a3 a4 n : Nat) (ah : Int32) (i : Nat) (fd : Nat → Int32) (h1 : n ≤ 400) (hi : i < n) : mV l D (tyL kA) z yX3_wear wq_X3_wear ({ frames := 2, cells := 0, slots := 0, locals := 43 }) [.ref h0, .int (nI i)] [(h0, .inr (2, [.ref a1, .ref a2, .ref a3, .ref a4, .int (nI n), .int ah])), (a4, .inl (kA 0, 400, .inl fd))] (fun w => ∃ (fd2 : Nat → Int32), w = [(h0, .inr (2, [.ref a1, .ref a2, .ref a3, .ref a4, .int (nI n), .int ah])), (a4, .inl (kA 0, 400, .inl fd2))] ∧ (fd2 = wearF fd i)) := by
  refine ofV (cc := cX3_wear) (maxL := 3) RX3 rfl (by decide +kernel) rfl (Nat.le_of_ble_eq_true rfl) ?_
  intro p e s m args below meth c A ls hnm hE
  obtain ⟨hx, hb, hr, hml, hts, hown, hlocks, hA, hS, hP, hK, hD, hG, hl⟩ := hE
  have hl : lv_has ls 3 [(0, .ref h0), (1, .int (nI i))] := hl
  have hH : s.heap = s.heap := rfl
  refine lv_aload_n hx hb dX3_wear_0 rfl (lv_at hl 0 rfl) ?_
  refine lv_iload_n hx hb dX3_wear_1 rfl (lv_at hl 1 rfl) ?_
  have hF := va_free (wc := [(h0, .inr (2, [.ref a1, .ref a2, .ref a3, .ref a4, .int (nI n), .int ah])), (a4, .inl (kA 0, 400, .inl fd))]) hD hS hA [0, 1] rfl
  refine va_calli (va_runV (As := [.int (nI i)]) (rest := []) ⟨hx, hb, hml, hown, hts⟩ (c_X3_dirtAt_in l D kA z h0 a1 a2 a3 a4 n ah i fd (by first | assumption | omega) (by first | assumption | omega) _) (cwV 1 hts h_X3_wear_0 rfl rfl rfl (by decide +kernel) ⟨Nat.le_of_ble_eq_true rfl, Nat.le_of_ble_eq_true rfl⟩) (fPv hK hP hD hS hG hF [0, 1] (by decide) rfl 0 2 rfl rfl rfl) rfl rfl hl.1 rfl (lv_room (Nat.le_of_ble_eq_true rfl)) dX3_wear_2 ⟨Nat.le_of_ble_eq_true rfl, Nat.le_of_ble_eq_true rfl⟩) hS (fun q _ h => hF q h) hF (fun r_1 w1 t H locs ht hvm hw hB hz1 hk1 hS => ?_)
  obtain ⟨hP, hD⟩ := fJ (wr := []) hP hD [0, 1] [] rfl rfl (by decide) (by decide) hk1 hF ht hB
  try dsimp only at hw
  obtain ⟨rfl, e_1⟩ := hw
  have hP : va_P D vwCl [(h0, .inr (2, [.ref a1, .ref a2, .ref a3, .ref a4, .int (nI n), .int ah])), (a4, .inl (kA 0, 400, .inl fd))] H := hP
  have hD : va_D A [(h0, .inr (2, [.ref a1, .ref a2, .ref a3, .ref a4, .int (nI n), .int ah])), (a4, .inl (kA 0, 400, .inl fd))] := hD
  refine lv_istore_n (lv' := [(2, .int r_1), (0, .ref h0), (1, .int (nI i))]) hx hb dX3_wear_5 rfl hl (by decide) rfl (fun ls hl => ?_)
  refine lv_iload_n hx hb dX3_wear_6 rfl (lv_at hl 0 rfl) ?_
  refine lv_iconst (v := nI 1) hx hb dX3_wear_7 (by decide) ?_
  refine lv_icmp_ne (tgt := 20) hx hb dX3_wear_8 (by decide) (fun c8 => ?_) (fun c8 => ?_)
  ·
    refine lv_iload_n hx hb dX3_wear_20 rfl (lv_at hl 0 rfl) ?_
    refine lv_iconst (v := nI 2) hx hb dX3_wear_21 (by decide) ?_
    refine lv_icmp_ne (tgt := 31) hx hb dX3_wear_22 (by decide) (fun c22 => ?_) (fun c22 => ?_)
    ·
      exact endV hx hb hr hlocks hK hP hD hS (⟨fd, rfl, by first | exact wear_1 (by rw [← e_1]; exact c8) | exact wear_2 (by rw [← e_1]; exact c8) (by rw [← e_1]; exact c22) | exact wear_0 (by rw [← e_1]; exact c8) (by rw [← e_1]; exact c22)⟩) (Nat.le_of_ble_eq_true rfl) (Nat.le_of_ble_eq_true rfl) dX3_wear_31
    ·
      refine lv_aload_n hx hb dX3_wear_25 rfl (lv_at hl 1 rfl) ?_
      refine lv_iload_n hx hb dX3_wear_26 rfl (lv_at hl 2 rfl) ?_
      refine lv_iconst (v := nI 3) hx hb dX3_wear_27 (by decide) ?_
      have hF := va_free (wc := [(h0, .inr (2, [.ref a1, .ref a2, .ref a3, .ref a4, .int (nI n), .int ah])), (a4, .inl (kA 0, 400, .inl fd))]) hD hS hA [0, 1] rfl
      refine va_callv (va_runV (As := [.int (nI i), .int (nI 3)]) (rest := []) ⟨hx, hb, hml, hown, hts⟩ (c_X3_setDirt_in l D kA z h0 a1 a2 a3 a4 n ah i (nI 3) fd (by first | assumption | omega) (by first | assumption | omega) _) (cwV 2 hts h_X3_wear_1 rfl rfl rfl (by decide +kernel) ⟨Nat.le_of_ble_eq_true rfl, Nat.le_of_ble_eq_true rfl⟩) (fPv hK hP hD hS hG hF [0, 1] (by decide) rfl 0 2 rfl rfl rfl) rfl rfl hl.1 rfl (lv_room (Nat.le_of_ble_eq_true rfl)) dX3_wear_28 ⟨Nat.le_of_ble_eq_true rfl, Nat.le_of_ble_eq_true rfl⟩) hS (fun q _ h => hF q h) hF (fun w1 t H locs ht hvm hw hB hz1 hk1 hS => ?_)
      obtain ⟨hP, hD⟩ := fJ (wr := []) hP hD [0, 1] [] rfl rfl (by decide) (by decide) hk1 hF ht hB
      try dsimp only at hw
      subst hw
      have hP : va_P D vwCl [(h0, .inr (2, [.ref a1, .ref a2, .ref a3, .ref a4, .int (nI n), .int ah])), (a4, .inl (kA 0, 400, .inl (upd fd i (nI 3))))] H := hP
      have hD : va_D A [(h0, .inr (2, [.ref a1, .ref a2, .ref a3, .ref a4, .int (nI n), .int ah])), (a4, .inl (kA 0, 400, .inl (upd fd i (nI 3))))] := hD
      exact endV hx hb hr hlocks hK hP hD hS (⟨(upd fd i (nI 3)), rfl, by first | exact wear_1 (by rw [← e_1]; exact c8) | exact wear_2 (by rw [← e_1]; exact c8) (by rw [← e_1]; exact c22) | exact wear_0 (by rw [← e_1]; exact c8) (by rw [← e_1]; exact c22)⟩) (Nat.le_of_ble_eq_true rfl) (Nat.le_of_ble_eq_true rfl) dX3_wear_31
  ·
    refine lv_aload_n hx hb dX3_wear_11 rfl (lv_at hl 1 rfl) ?_
    refine lv_iload_n hx hb dX3_wear_12 rfl (lv_at hl 2 rfl) ?_
    refine lv_iconst (v := nI 2) hx hb dX3_wear_13 (by decide) ?_
    have hF := va_free (wc := [(h0, .inr (2, [.ref a1, .ref a2, .ref a3, .ref a4, .int (nI n), .int ah])), (a4, .inl (kA 0, 400, .inl fd))]) hD hS hA [0, 1] rfl
    refine va_callv (va_runV (As := [.int (nI i), .int (nI 2)]) (rest := []) ⟨hx, hb, hml, hown, hts⟩ (c_X3_setDirt_in l D kA z h0 a1 a2 a3 a4 n ah i (nI 2) fd (by first | assumption | omega) (by first | assumption | omega) _) (cwV 2 hts h_X3_wear_1 rfl rfl rfl (by decide +kernel) ⟨Nat.le_of_ble_eq_true rfl, Nat.le_of_ble_eq_true rfl⟩) (fPv hK hP hD hS hG hF [0, 1] (by decide) rfl 0 2 rfl rfl rfl) rfl rfl hl.1 rfl (lv_room (Nat.le_of_ble_eq_true rfl)) dX3_wear_14 ⟨Nat.le_of_ble_eq_true rfl, Nat.le_of_ble_eq_true rfl⟩) hS (fun q _ h => hF q h) hF (fun w1 t H locs ht hvm hw hB hz1 hk1 hS => ?_)
    obtain ⟨hP, hD⟩ := fJ (wr := []) hP hD [0, 1] [] rfl rfl (by decide) (by decide) hk1 hF ht hB
    try dsimp only at hw
    subst hw
    have hP : va_P D vwCl [(h0, .inr (2, [.ref a1, .ref a2, .ref a3, .ref a4, .int (nI n), .int ah])), (a4, .inl (kA 0, 400, .inl (upd fd i (nI 2))))] H := hP
    have hD : va_D A [(h0, .inr (2, [.ref a1, .ref a2, .ref a3, .ref a4, .int (nI n), .int ah])), (a4, .inl (kA 0, 400, .inl (upd fd i (nI 2))))] := hD
    refine lv_goto (tgt := 31) hx hb dX3_wear_17 (by decide) ?_
    exact endV hx hb hr hlocks hK hP hD hS (⟨(upd fd i (nI 2)), rfl, by first | exact wear_1 (by rw [← e_1]; exact c8) | exact wear_2 (by rw [← e_1]; exact c8) (by rw [← e_1]; exact c22) | exact wear_0 (by rw [← e_1]; exact c8) (by rw [← e_1]; exact c22)⟩) (Nat.le_of_ble_eq_true rfl) (Nat.le_of_ble_eq_true rfl) dX3_wear_31

def wq_X3_countOf : List Cond := .code yX3_countOf cX3_countOf 4 (some .int) :: (([.fieldLink RX3 25 "FluxBench$Surface" "length" "I", .methodLink RX3 75 yX3_dirtTold, .instanceMethod yX3_dirtTold, .selects RX3 yX3_dirtTold yX3_dirtTold, .initialized RX3] : List Cond) ++ (u_ws RX3 TX3 6 ++ (wq_X3_dirtTold_in ++ ([] : List Cond))))
theorem gd_X3_countOf : wq_X3_countOf.all goodWord = true := by decide +kernel
theorem n_X3_countOf_X3 : ∀ w ∈ u_ws RX3 TX3 6, w ∈ wq_X3_countOf := fun w h => List.mem_cons_of_mem _ (List.mem_append_right _ (List.mem_append_left _ h))
theorem h_X3_countOf_0 : GoodIn wq_X3_countOf (wsV RX3 75 RX3 yX3_dirtTold wq_X3_dirtTold_in) := goodIn_app (goodIn_r _ [2, 3, 4, 5] (by decide +kernel) (by decide +kernel)) (goodIn_sub (fun w h => List.mem_cons_of_mem _ (List.mem_append_right _ (List.mem_append_right _ (List.mem_append_left _ h)))) gd_X3_dirtTold_in)
set_option maxHeartbeats 4000000 in
set_option maxRecDepth 100000 in
theorem c_X3_countOf (l : Launch) (D : va_G) (kA : Nat → ClassId) (z : Nat) (h0 a1 a2 a3 a4 n : Nat) (ah : Int32) (tt : Nat) (fd : Nat → Int32) (h1 : n ≤ 400) (ht2 : tt ≤ 2) : mI l D (tyL kA) z yX3_countOf wq_X3_countOf ({ frames := 3, cells := 0, slots := 0, locals := 65 }) [.ref h0, .int (nI tt)] [(h0, .inr (2, [.ref a1, .ref a2, .ref a3, .ref a4, .int (nI n), .int ah])), (a4, .inl (kA 0, 400, .inl fd))] (fun r w => w = [(h0, .inr (2, [.ref a1, .ref a2, .ref a3, .ref a4, .int (nI n), .int ah])), (a4, .inl (kA 0, 400, .inl fd))] ∧ (r = nI (cntT fd tt n))) := by
  refine ofI (cc := cX3_countOf) (maxL := 4) RX3 rfl (by decide +kernel) rfl (Nat.le_of_ble_eq_true rfl) ?_
  intro p e s m args below meth c A ls hE
  obtain ⟨hx, hb, hr, hml, hts, hown, hlocks, hA, hS, hP, hK, hD, hG, hl⟩ := hE
  have hl : lv_has ls 4 [(0, .ref h0), (1, .int (nI tt))] := hl
  have hH : s.heap = s.heap := rfl
  refine lv_iconst (v := nI 0) hx hb dX3_countOf_0 (by decide) ?_
  refine lv_istore_n (lv' := [(2, .int (nI 0)), (0, .ref h0), (1, .int (nI tt))]) hx hb dX3_countOf_1 rfl hl (by decide) rfl (fun ls hl => ?_)
  refine lv_iconst (v := nI 0) hx hb dX3_countOf_2 (by decide) ?_
  refine lv_istore_n (lv' := [(3, .int (nI 0)), (2, .int (nI 0)), (0, .ref h0), (1, .int (nI tt))]) hx hb dX3_countOf_3 rfl hl (by decide) rfl (fun ls hl => ?_)
  have lp_4 : ∀ (n_4 : Nat) (i : Nat) (k : Nat), n - i < n_4 → (i ≤ n) → (k = cntT fd tt i) → ∀ (H : Heap) (locs : List Loc) (ls : Array Slot), va_P D vwCl [(h0, .inr (2, [.ref a1, .ref a2, .ref a3, .ref a4, .int (nI n), .int ah])), (a4, .inl (kA 0, 400, .inl fd))] H → va_D A [(h0, .inr (2, [.ref a1, .ref a2, .ref a3, .ref a4, .int (nI n), .int ah])), (a4, .inl (kA 0, 400, .inl fd))] → va_S A s.heap H locs → lv_has ls 4 [(3, .int (nI i)), (2, .int (nI k)), (0, .ref h0), (1, .int (nI tt))] → W p l e ({ frames := 3, cells := 0, slots := 0, locals := 65 }) s m args below meth c H locs 0 0 (MQ below (va_Qi (fun r w => w = [(h0, .inr (2, [.ref a1, .ref a2, .ref a3, .ref a4, .int (nI n), .int ah])), (a4, .inl (kA 0, 400, .inl fd))] ∧ (r = nI (cntT fd tt n))) (fB D (tyL kA) A) A) args s 0 0 A) (F0 m 4 ls []) := by
    clear hP hD hS hl
    intro n_4
    induction n_4 with
    | zero =>
      intro i k hm_4 hi1 hk
      exact absurd hm_4 (by omega)
    | succ n_4 ih_4 =>
      intro i k hm_4 hi1 hk H locs ls hP hD hS hl
      refine lv_iload_n hx hb dX3_countOf_4 rfl (lv_at hl 0 rfl) ?_
      refine lv_aload_n hx hb dX3_countOf_5 rfl (lv_at hl 2 rfl) ?_
      refine va_get (D := D) (ci := 2) (v := .int (nI n)) (C := RX3) (T := TX3) (N := 6) hx hb hts n_X3_countOf_X3 hown hK hP 0 rfl rfl 4 (by decide) (wAt hts 1 (w := .fieldLink RX3 25 "FluxBench$Surface" "length" "I") rfl) (fun _ h9 => h9) rfl dX3_countOf_6 ?_
      refine lv_icmp_ge (tgt := 30) hx hb dX3_countOf_9 (by decide) (fun c9 => ?_) (fun c9 => ?_)
      ·
        rw [qle (a := n) (b := i) (by omega) (by omega)] at c9
        refine lv_iload_n hx hb dX3_countOf_30 rfl (lv_at hl 1 rfl) ?_
        exact endI hx hb hr hlocks hK hP hD hS (⟨rfl, by rw [hk, show i = n from by omega]⟩) (Nat.le_of_ble_eq_true rfl) (Nat.le_of_ble_eq_true rfl) dX3_countOf_31
      ·
        rw [qle (a := n) (b := i) (by omega) (by omega)] at c9
        refine lv_aload_n hx hb dX3_countOf_12 rfl (lv_at hl 2 rfl) ?_
        refine lv_iload_n hx hb dX3_countOf_13 rfl (lv_at hl 0 rfl) ?_
        have hF := va_free (wc := [(h0, .inr (2, [.ref a1, .ref a2, .ref a3, .ref a4, .int (nI n), .int ah])), (a4, .inl (kA 0, 400, .inl fd))]) hD hS hA [0, 1] rfl
        refine va_calli (va_runV (As := [.int (nI i)]) (rest := []) ⟨hx, hb, hml, hown, hts⟩ (c_X3_dirtTold_in l D kA z h0 a1 a2 a3 a4 n ah i fd (by first | assumption | omega) (by first | assumption | omega) _) (cwV 1 hts h_X3_countOf_0 rfl rfl rfl (by decide +kernel) ⟨Nat.le_of_ble_eq_true rfl, Nat.le_of_ble_eq_true rfl⟩) (fPv hK hP hD hS hG hF [0, 1] (by decide) rfl 0 2 rfl rfl rfl) rfl rfl hl.1 rfl (lv_room (Nat.le_of_ble_eq_true rfl)) dX3_countOf_14 ⟨Nat.le_of_ble_eq_true rfl, Nat.le_of_ble_eq_true rfl⟩) hS (fun q _ h => hF q h) hF (fun r_1 w1 t H locs ht hvm hw hB hz1 hk1 hS => ?_)
        obtain ⟨hP, hD⟩ := fJ (wr := []) hP hD [0, 1] [] rfl rfl (by decide) (by decide) hk1 hF ht hB
        try dsimp only at hw
        obtain ⟨rfl, e_1, hd_1⟩ := hw
        replace e_1 := e_1.symm
        subst e_1
        have hP : va_P D vwCl [(h0, .inr (2, [.ref a1, .ref a2, .ref a3, .ref a4, .int (nI n), .int ah])), (a4, .inl (kA 0, 400, .inl fd))] H := hP
        have hD : va_D A [(h0, .inr (2, [.ref a1, .ref a2, .ref a3, .ref a4, .int (nI n), .int ah])), (a4, .inl (kA 0, 400, .inl fd))] := hD
        refine lv_iload_n hx hb dX3_countOf_17 rfl (lv_at hl 3 rfl) ?_
        refine lv_icmp_ne (tgt := 24) hx hb dX3_countOf_18 (by decide) (fun c18 => ?_) (fun c18 => ?_)
        ·
          rw [qeq (a := (dT (fd i))) (b := tt) (by omega) (by omega)] at c18
          refine lv_iinc (v := nI (i + 1)) (lv' := [(3, .int (nI (i + 1))), (2, .int (nI k)), (0, .ref h0), (1, .int (nI tt))]) hx hb dX3_countOf_24 hl (k := 0) rfl (nI_add i 1) (by decide) rfl (fun ls hl => ?_)
          refine lv_goto (tgt := 4) hx hb dX3_countOf_27 (by decide) ?_
          exact ih_4 (i + 1) k (by omega) (by first | assumption | omega | rfl) (by rw [cntT_n c18, hk]) _ _ _ (hP.sub [0, 1] rfl) (hD.sub [0, 1] (by decide) rfl) hS (lv_sub hl [0, 1, 2, 3] rfl)
        ·
          rw [qeq (a := (dT (fd i))) (b := tt) (by omega) (by omega)] at c18
          refine lv_iinc (v := nI (k + 1)) (lv' := [(2, .int (nI (k + 1))), (3, .int (nI i)), (0, .ref h0), (1, .int (nI tt))]) hx hb dX3_countOf_21 hl (k := 1) rfl (nI_add k 1) (by decide) rfl (fun ls hl => ?_)
          refine lv_iinc (v := nI (i + 1)) (lv' := [(3, .int (nI (i + 1))), (2, .int (nI (k + 1))), (0, .ref h0), (1, .int (nI tt))]) hx hb dX3_countOf_24 hl (k := 1) rfl (nI_add i 1) (by decide) rfl (fun ls hl => ?_)
          refine lv_goto (tgt := 4) hx hb dX3_countOf_27 (by decide) ?_
          exact ih_4 (i + 1) (k + 1) (by omega) (by first | assumption | omega | rfl) (by rw [cntT_y c18, hk]) _ _ _ (hP.sub [0, 1] rfl) (hD.sub [0, 1] (by decide) rfl) hS (lv_sub hl [0, 1, 2, 3] rfl)
  exact lp_4 (n + 1) 0 0 (by omega) (by first | assumption | omega | rfl) rfl _ _ _ (hP.sub [0, 1] rfl) (hD.sub [0, 1] (by decide) rfl) hS (lv_sub hl [0, 1, 2, 3] rfl)

def wq_X3_widthsTogether : List Cond := .code yX3_widthsTogether cX3_widthsTogether 3 (some .int) :: (([.fieldLink RX3 25 "FluxBench$Surface" "length" "I", .methodLink RX3 78 yX3_widthAt, .instanceMethod yX3_widthAt, .selects RX3 yX3_widthAt yX3_widthAt, .initialized RX3] : List Cond) ++ (u_ws RX3 TX3 6 ++ (wq_X3_widthAt_in ++ ([] : List Cond))))
theorem gd_X3_widthsTogether : wq_X3_widthsTogether.all goodWord = true := by decide +kernel
theorem n_X3_widthsTogether_X3 : ∀ w ∈ u_ws RX3 TX3 6, w ∈ wq_X3_widthsTogether := fun w h => List.mem_cons_of_mem _ (List.mem_append_right _ (List.mem_append_left _ h))
theorem h_X3_widthsTogether_0 : GoodIn wq_X3_widthsTogether (wsV RX3 78 RX3 yX3_widthAt wq_X3_widthAt_in) := goodIn_app (goodIn_r _ [2, 3, 4, 5] (by decide +kernel) (by decide +kernel)) (goodIn_sub (fun w h => List.mem_cons_of_mem _ (List.mem_append_right _ (List.mem_append_right _ (List.mem_append_left _ h)))) gd_X3_widthAt_in)
set_option maxHeartbeats 4000000 in
set_option maxRecDepth 100000 in
theorem c_X3_widthsTogether (l : Launch) (D : va_G) (kA : Nat → ClassId) (z : Nat) (h0 a1 a2 a3 a4 n : Nat) (ah : Int32) (fw : Nat → Int32) (h1 : n ≤ 400) : mI l D (tyL kA) z yX3_widthsTogether wq_X3_widthsTogether ({ frames := 2, cells := 0, slots := 0, locals := 42 }) [.ref h0] [(h0, .inr (2, [.ref a1, .ref a2, .ref a3, .ref a4, .int (nI n), .int ah])), (a2, .inl (kA 0, 400, .inl fw))] (fun r w => w = [(h0, .inr (2, [.ref a1, .ref a2, .ref a3, .ref a4, .int (nI n), .int ah])), (a2, .inl (kA 0, 400, .inl fw))] ∧ (r = sumW fw n)) := by
  refine ofI (cc := cX3_widthsTogether) (maxL := 3) RX3 rfl (by decide +kernel) rfl (Nat.le_of_ble_eq_true rfl) ?_
  intro p e s m args below meth c A ls hE
  obtain ⟨hx, hb, hr, hml, hts, hown, hlocks, hA, hS, hP, hK, hD, hG, hl⟩ := hE
  have hl : lv_has ls 3 [(0, .ref h0)] := hl
  have hH : s.heap = s.heap := rfl
  refine lv_iconst (v := nI 0) hx hb dX3_widthsTogether_0 (by decide) ?_
  refine lv_istore_n (lv' := [(1, .int (nI 0)), (0, .ref h0)]) hx hb dX3_widthsTogether_1 rfl hl (by decide) rfl (fun ls hl => ?_)
  refine lv_iconst (v := nI 0) hx hb dX3_widthsTogether_2 (by decide) ?_
  refine lv_istore_n (lv' := [(2, .int (nI 0)), (1, .int (nI 0)), (0, .ref h0)]) hx hb dX3_widthsTogether_3 rfl hl (by decide) rfl (fun ls hl => ?_)
  have lp_4 : ∀ (n_4 : Nat) (i : Nat) (k : Int32), n - i < n_4 → (i ≤ n) → (k = sumW fw i) → ∀ (H : Heap) (locs : List Loc) (ls : Array Slot), va_P D vwCl [(h0, .inr (2, [.ref a1, .ref a2, .ref a3, .ref a4, .int (nI n), .int ah])), (a2, .inl (kA 0, 400, .inl fw))] H → va_D A [(h0, .inr (2, [.ref a1, .ref a2, .ref a3, .ref a4, .int (nI n), .int ah])), (a2, .inl (kA 0, 400, .inl fw))] → va_S A s.heap H locs → lv_has ls 3 [(2, .int (nI i)), (1, .int k), (0, .ref h0)] → W p l e ({ frames := 2, cells := 0, slots := 0, locals := 42 }) s m args below meth c H locs 0 0 (MQ below (va_Qi (fun r w => w = [(h0, .inr (2, [.ref a1, .ref a2, .ref a3, .ref a4, .int (nI n), .int ah])), (a2, .inl (kA 0, 400, .inl fw))] ∧ (r = sumW fw n)) (fB D (tyL kA) A) A) args s 0 0 A) (F0 m 4 ls []) := by
    clear hP hD hS hl
    intro n_4
    induction n_4 with
    | zero =>
      intro i k hm_4 hi1 hk
      exact absurd hm_4 (by omega)
    | succ n_4 ih_4 =>
      intro i k hm_4 hi1 hk H locs ls hP hD hS hl
      refine lv_iload_n hx hb dX3_widthsTogether_4 rfl (lv_at hl 0 rfl) ?_
      refine lv_aload_n hx hb dX3_widthsTogether_5 rfl (lv_at hl 2 rfl) ?_
      refine va_get (D := D) (ci := 2) (v := .int (nI n)) (C := RX3) (T := TX3) (N := 6) hx hb hts n_X3_widthsTogether_X3 hown hK hP 0 rfl rfl 4 (by decide) (wAt hts 1 (w := .fieldLink RX3 25 "FluxBench$Surface" "length" "I") rfl) (fun _ h9 => h9) rfl dX3_widthsTogether_6 ?_
      refine lv_icmp_ge (tgt := 26) hx hb dX3_widthsTogether_9 (by decide) (fun c9 => ?_) (fun c9 => ?_)
      ·
        rw [qle (a := n) (b := i) (by omega) (by omega)] at c9
        refine lv_iload_n hx hb dX3_widthsTogether_26 rfl (lv_at hl 1 rfl) ?_
        exact endI hx hb hr hlocks hK hP hD hS (⟨rfl, by rw [hk, show i = n from by omega]⟩) (Nat.le_of_ble_eq_true rfl) (Nat.le_of_ble_eq_true rfl) dX3_widthsTogether_27
      ·
        rw [qle (a := n) (b := i) (by omega) (by omega)] at c9
        refine lv_iload_n hx hb dX3_widthsTogether_12 rfl (lv_at hl 1 rfl) ?_
        refine lv_aload_n hx hb dX3_widthsTogether_13 rfl (lv_at hl 2 rfl) ?_
        refine lv_iload_n hx hb dX3_widthsTogether_14 rfl (lv_at hl 0 rfl) ?_
        have hF := va_free (wc := [(h0, .inr (2, [.ref a1, .ref a2, .ref a3, .ref a4, .int (nI n), .int ah])), (a2, .inl (kA 0, 400, .inl fw))]) hD hS hA [0, 1] rfl
        refine va_calli (va_runV (As := [.int (nI i)]) (rest := [.int k]) ⟨hx, hb, hml, hown, hts⟩ (c_X3_widthAt_in l D kA z h0 a1 a2 a3 a4 n ah i fw (by first | assumption | omega) (by first | assumption | omega) _) (cwV 1 hts h_X3_widthsTogether_0 rfl rfl rfl (by decide +kernel) ⟨Nat.le_of_ble_eq_true rfl, Nat.le_of_ble_eq_true rfl⟩) (fPv hK hP hD hS hG hF [0, 1] (by decide) rfl 0 2 rfl rfl rfl) rfl rfl hl.1 rfl (lv_room (Nat.le_of_ble_eq_true rfl)) dX3_widthsTogether_15 ⟨Nat.le_of_ble_eq_true rfl, Nat.le_of_ble_eq_true rfl⟩) hS (fun q _ h => hF q h) hF (fun r_1 w1 t H locs ht hvm hw hB hz1 hk1 hS => ?_)
        obtain ⟨hP, hD⟩ := fJ (wr := []) hP hD [0, 1] [] rfl rfl (by decide) (by decide) hk1 hF ht hB
        try dsimp only at hw
        obtain ⟨rfl, e_1⟩ := hw
        have hP : va_P D vwCl [(h0, .inr (2, [.ref a1, .ref a2, .ref a3, .ref a4, .int (nI n), .int ah])), (a2, .inl (kA 0, 400, .inl fw))] H := hP
        have hD : va_D A [(h0, .inr (2, [.ref a1, .ref a2, .ref a3, .ref a4, .int (nI n), .int ah])), (a2, .inl (kA 0, 400, .inl fw))] := hD
        refine lv_iadd hx hb dX3_widthsTogether_18 ?_
        refine lv_istore_n (lv' := [(1, .int (k + r_1)), (2, .int (nI i)), (0, .ref h0)]) hx hb dX3_widthsTogether_19 rfl hl (by decide) rfl (fun ls hl => ?_)
        refine lv_iinc (v := nI (i + 1)) (lv' := [(2, .int (nI (i + 1))), (1, .int (k + r_1)), (0, .ref h0)]) hx hb dX3_widthsTogether_20 hl (k := 1) rfl (nI_add i 1) (by decide) rfl (fun ls hl => ?_)
        refine lv_goto (tgt := 4) hx hb dX3_widthsTogether_23 (by decide) ?_
        exact ih_4 (i + 1) (k + r_1) (by omega) (by first | assumption | omega | rfl) (by rw [hk, e_1]; rfl) _ _ _ (hP.sub [0, 1] rfl) (hD.sub [0, 1] (by decide) rfl) hS (lv_sub hl [0, 1, 2] rfl)
  exact lp_4 (n + 1) 0 (nI 0) (by omega) (by first | assumption | omega | rfl) rfl _ _ _ (hP.sub [0, 1] rfl) (hD.sub [0, 1] (by decide) rfl) hS (lv_sub hl [0, 1, 2] rfl)
