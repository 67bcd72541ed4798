def wq_X2_init : List Cond := .code yX2_init cX2_init 1 none :: (([.methodLink RX2 3 objectInit, .instanceMethod objectInit, .code objectInit ⟨#[0xb1]⟩ 1 none, .arrayClass .int, .fieldLink RX2 9 "FluxBench$Row" "cells" "[I", .fieldLink RX2 15 "FluxBench$Row" "length" "I", .fieldLink RX2 19 "FluxBench$Row" "word" "I"] : List Cond) ++ (u_ws RX2 TX2 3 ++ ([] : List Cond)))
theorem gd_X2_init : wq_X2_init.all goodWord = true := by decide +kernel
theorem n_X2_init_X2 : ∀ w ∈ u_ws RX2 TX2 3, w ∈ wq_X2_init := fun w h => List.mem_cons_of_mem _ (List.mem_append_right _ (List.mem_append_left _ h))
set_option maxHeartbeats 4000000 in
set_option maxRecDepth 100000 in
theorem c_X2_init (l : Launch) (D : va_G) (kA : Nat → ClassId) (z : Nat) (h0 : Nat)  : mV l D (tyL kA) z yX2_init wq_X2_init ({ frames := 1, cells := 1, slots := 400, locals := 12 }) [.ref h0] [(h0, .inr (1, [.null, .int 0, .int 0]))] (fun w => ∃ (a : Nat), w = [(h0, .inr (1, [.ref a, .int (nI 0), .int (nI 1)])), (a, .inl (kA 0, 400, .inl (fun _ => 0)))]) := by
  refine ofV (cc := cX2_init) (maxL := 1) RX2 rfl (by decide +kernel) rfl (Nat.le_of_ble_eq_true rfl) ?_
  intro p e s m args below meth c A ls hnm hE
  obtain ⟨hx, hb, hr, hml, hts, hown, hlocks, hA, hS, hP, hK, hD, hG, hl⟩ := hE
  have hl : lv_has ls 1 [(0, .ref h0)] := hl
  have hH : s.heap = s.heap := rfl
  refine lv_aload_n hx hb dX2_init_0 rfl (lv_at hl 0 rfl) ?_
  refine W.objInit hx hb hown (wAt hts 1 (w := .methodLink RX2 3 objectInit) rfl) (wAt hts 2 (w := .instanceMethod objectInit) rfl) (wAt hts 3 (w := .code objectInit ⟨#[0xb1]⟩ 1 none) rfl) rfl (by rw [hml]; exact hl.1) rfl dX2_init_1 (Nat.le_of_ble_eq_true rfl) (Nat.le_of_ble_eq_true rfl) ?_
  refine W.eq (g2 := F0 m 4 ls []) rfl ?_
  refine lv_aload_n hx hb dX2_init_4 rfl (lv_at hl 0 rfl) ?_
  refine lv_sipush (v := nI 400) hx hb dX2_init_5 (by decide) ?_
  refine va_newa (atype := .int) (ty := .int) (N' := 400) (a0 := (400, .inl (fun _ => 0))) hx hb (wAt hts 4 (w := .arrayClass .int) rfl) rfl hK hP hD hS hA (fun _ => rfl) (nI_pos (n := 400) (by decide)) (nI_clamp (n := 400) (by decide)) (by decide) (Nat.le_of_ble_eq_true rfl) (Nat.le_of_ble_eq_true rfl) dX2_init_8 (fun q_1 cA H hK hP hD hS => ?_)
  obtain rfl : cA = kA 0 := tyEq hK 3 0 rfl rfl
  have hK : va_K D vwCl (tyL kA) s := hK.sub [0, 1, 2] rfl
  have hP : va_P D vwCl [(h0, .inr (1, [.null, .int 0, .int 0])), (q_1, .inl (kA 0, 400, .inl (fun _ => 0)))] H := hP
  have hD : va_D A [(h0, .inr (1, [.null, .int 0, .int 0])), (q_1, .inl (kA 0, 400, .inl (fun _ => 0)))] := hD
  refine va_putF (D := D) (ci := 1) (v := .ref q_1) (ty := (tyX2 0)) (C := RX2) (T := TX2) (N := 3) hx hb hts n_X2_init_X2 tyX2 tyX2_ok nmX2 hown hK hP hD hS 0 rfl rfl 0 (by decide) (wAt hts 5 (w := .fieldLink RX2 9 "FluxBench$Row" "cells" "[I") rfl) (fun _ h9 => h9) rfl hnm rfl (by decide +kernel) rfl rfl (Nat.le_of_ble_eq_true rfl) dX2_init_10 (fun H locs hP hD hS => ?_)
  have hP : va_P D vwCl [(h0, .inr (1, [.ref q_1, .int 0, .int 0])), (q_1, .inl (kA 0, 400, .inl (fun _ => 0)))] H := hP
  have hD : va_D A [(h0, .inr (1, [.ref q_1, .int 0, .int 0])), (q_1, .inl (kA 0, 400, .inl (fun _ => 0)))] := hD
  refine lv_aload_n hx hb dX2_init_13 rfl (lv_at hl 0 rfl) ?_
  refine lv_iconst (v := nI 0) hx hb dX2_init_14 (by decide) ?_
  refine va_put (D := D) (ci := 1) (v := .int (nI 0)) (ty := .int) (C := RX2) (T := TX2) (N := 3) hx hb hts n_X2_init_X2 tyX2 tyX2_ok nmX2 hown hK hP hD hS 0 rfl rfl 1 (by decide) (wAt hts 6 (w := .fieldLink RX2 15 "FluxBench$Row" "length" "I") rfl) (fun _ h9 => h9) rfl (by decide +kernel) rfl rfl (Nat.le_of_ble_eq_true rfl) dX2_init_15 (fun H locs hP hD hS => ?_)
  have hP : va_P D vwCl [(h0, .inr (1, [.ref q_1, .int (nI 0), .int 0])), (q_1, .inl (kA 0, 400, .inl (fun _ => 0)))] H := hP
  have hD : va_D A [(h0, .inr (1, [.ref q_1, .int (nI 0), .int 0])), (q_1, .inl (kA 0, 400, .inl (fun _ => 0)))] := hD
  refine lv_aload_n hx hb dX2_init_18 rfl (lv_at hl 0 rfl) ?_
  refine lv_iconst (v := nI 1) hx hb dX2_init_19 (by decide) ?_
  refine va_put (D := D) (ci := 1) (v := .int (nI 1)) (ty := .int) (C := RX2) (T := TX2) (N := 3) hx hb hts n_X2_init_X2 tyX2 tyX2_ok nmX2 hown hK hP hD hS 0 rfl rfl 2 (by decide) (wAt hts 7 (w := .fieldLink RX2 19 "FluxBench$Row" "word" "I") rfl) (fun _ h9 => h9) rfl (by decide +kernel) rfl rfl (Nat.le_of_ble_eq_true rfl) dX2_init_20 (fun H locs hP hD hS => ?_)
  have hP : va_P D vwCl [(h0, .inr (1, [.ref q_1, .int (nI 0), .int (nI 1)])), (q_1, .inl (kA 0, 400, .inl (fun _ => 0)))] H := hP
  have hD : va_D A [(h0, .inr (1, [.ref q_1, .int (nI 0), .int (nI 1)])), (q_1, .inl (kA 0, 400, .inl (fun _ => 0)))] := hD
  exact endV hx hb hr hlocks hK hP hD hS (⟨q_1, rfl⟩) (Nat.le_of_ble_eq_true rfl) (Nat.le_of_ble_eq_true rfl) dX2_init_23

def wq_X2_empty : List Cond := .code yX2_empty cX2_empty 1 none :: (([.fieldLink RX2 15 "FluxBench$Row" "length" "I", .fieldLink RX2 19 "FluxBench$Row" "word" "I"] : List Cond) ++ (u_ws RX2 TX2 3 ++ ([] : List Cond)))
theorem gd_X2_empty : wq_X2_empty.all goodWord = true := by decide +kernel
theorem n_X2_empty_X2 : ∀ w ∈ u_ws RX2 TX2 3, w ∈ wq_X2_empty := fun w h => List.mem_cons_of_mem _ (List.mem_append_right _ (List.mem_append_left _ h))
set_option maxHeartbeats 4000000 in
set_option maxRecDepth 100000 in
theorem c_X2_empty (l : Launch) (D : va_G) (kA : Nat → ClassId) (z : Nat) (h0 a : Nat) (ln wd : Int32) (f : Nat → Int32)  : mV l D (tyL kA) z yX2_empty wq_X2_empty ({ frames := 0, cells := 0, slots := 0, locals := 0 }) [.ref h0] [(h0, .inr (1, [.ref a, .int ln, .int wd])), (a, .inl (kA 0, 400, .inl f))] (fun w => w = [(h0, .inr (1, [.ref a, .int (nI 0), .int (nI 1)])), (a, .inl (kA 0, 400, .inl f))]) := by
  refine ofV (cc := cX2_empty) (maxL := 1) RX2 rfl (by decide +kernel) rfl (Nat.le_of_ble_eq_true rfl) ?_
  intro p e s m args below meth c A ls hnm hE
  obtain ⟨hx, hb, hr, hml, hts, hown, hlocks, hA, hS, hP, hK, hD, hG, hl⟩ := hE
  have hl : lv_has ls 1 [(0, .ref h0)] := hl
  have hH : s.heap = s.heap := rfl
  refine lv_aload_n hx hb dX2_empty_0 rfl (lv_at hl 0 rfl) ?_
  refine lv_iconst (v := nI 0) hx hb dX2_empty_1 (by decide) ?_
  refine va_put (D := D) (ci := 1) (v := .int (nI 0)) (ty := .int) (C := RX2) (T := TX2) (N := 3) hx hb hts n_X2_empty_X2 tyX2 tyX2_ok nmX2 hown hK hP hD hS 0 rfl rfl 1 (by decide) (wAt hts 1 (w := .fieldLink RX2 15 "FluxBench$Row" "length" "I") rfl) (fun _ h9 => h9) rfl (by decide +kernel) rfl rfl (Nat.le_of_ble_eq_true rfl) dX2_empty_2 (fun H locs hP hD hS => ?_)
  have hP : va_P D vwCl [(h0, .inr (1, [.ref a, .int (nI 0), .int wd])), (a, .inl (kA 0, 400, .inl f))] H := hP
  have hD : va_D A [(h0, .inr (1, [.ref a, .int (nI 0), .int wd])), (a, .inl (kA 0, 400, .inl f))] := hD
  refine lv_aload_n hx hb dX2_empty_5 rfl (lv_at hl 0 rfl) ?_
  refine lv_iconst (v := nI 1) hx hb dX2_empty_6 (by decide) ?_
  refine va_put (D := D) (ci := 1) (v := .int (nI 1)) (ty := .int) (C := RX2) (T := TX2) (N := 3) hx hb hts n_X2_empty_X2 tyX2 tyX2_ok nmX2 hown hK hP hD hS 0 rfl rfl 2 (by decide) (wAt hts 2 (w := .fieldLink RX2 19 "FluxBench$Row" "word" "I") rfl) (fun _ h9 => h9) rfl (by decide +kernel) rfl rfl (Nat.le_of_ble_eq_true rfl) dX2_empty_7 (fun H locs hP hD hS => ?_)
  have hP : va_P D vwCl [(h0, .inr (1, [.ref a, .int (nI 0), .int (nI 1)])), (a, .inl (kA 0, 400, .inl f))] H := hP
  have hD : va_D A [(h0, .inr (1, [.ref a, .int (nI 0), .int (nI 1)])), (a, .inl (kA 0, 400, .inl f))] := hD
  exact endV hx hb hr hlocks hK hP hD hS (rfl) (Nat.le_of_ble_eq_true rfl) (Nat.le_of_ble_eq_true rfl) dX2_empty_10

def wq_X2_put_b : List Cond := .code yX2_put cX2_put 2 none :: (([.fieldLink RX2 15 "FluxBench$Row" "length" "I", .fieldLink RX2 9 "FluxBench$Row" "cells" "[I", .fieldLink RX2 19 "FluxBench$Row" "word" "I"] : List Cond) ++ (u_ws RX2 TX2 3 ++ ([] : List Cond)))
theorem gd_X2_put_b : wq_X2_put_b.all goodWord = true := by decide +kernel
theorem n_X2_put_b_X2 : ∀ w ∈ u_ws RX2 TX2 3, w ∈ wq_X2_put_b := fun w h => List.mem_cons_of_mem _ (List.mem_append_right _ (List.mem_append_left _ h))
set_option maxHeartbeats 4000000 in
set_option maxRecDepth 100000 in
theorem c_X2_put_b (l : Launch) (D : va_G) (kA : Nat → ClassId) (z : Nat) (h0 a ln x : Nat) (wd : Int32) (f : Nat → Int32) (h1 : ln ≤ 400) (hf : B01 f) (hx1 : x ≤ 1) : mV l D (tyL kA) z yX2_put wq_X2_put_b ({ frames := 0, cells := 0, slots := 0, locals := 0 }) [.ref h0, .int (nI x)] [(h0, .inr (1, [.ref a, .int (nI ln), .int wd])), (a, .inl (kA 0, 400, .inl f))] (fun w => ∃ (ln2 : Nat) (wd2 : Int32) (f2 : Nat → Int32), w = [(h0, .inr (1, [.ref a, .int (nI ln2), .int wd2])), (a, .inl (kA 0, 400, .inl f2))] ∧ (ln2 = min (ln + 1) 400) ∧ (B01 f2)) := by
  refine ofV (cc := cX2_put) (maxL := 2) RX2 rfl (by decide +kernel) rfl (Nat.le_of_ble_eq_true rfl) ?_
  intro p e s m args below meth c A ls hnm hE
  obtain ⟨hx, hb, hr, hml, hts, hown, hlocks, hA, hS, hP, hK, hD, hG, hl⟩ := hE
  have hl : lv_has ls 2 [(0, .ref h0), (1, .int (nI x))] := hl
  have hH : s.heap = s.heap := rfl
  refine lv_aload_n hx hb dX2_put_0 rfl (lv_at hl 0 rfl) ?_
  refine va_get (D := D) (ci := 1) (v := .int (nI ln)) (C := RX2) (T := TX2) (N := 3) hx hb hts n_X2_put_b_X2 hown hK hP 0 rfl rfl 1 (by decide) (wAt hts 1 (w := .fieldLink RX2 15 "FluxBench$Row" "length" "I") rfl) (fun _ h9 => h9) rfl dX2_put_1 ?_
  refine lv_if_lt (tgt := 19) hx hb dX2_put_4 (by decide) (fun c4 => absurd c4 (nI_pos (n := ln) (by omega))) (fun _ => ?_)
  refine lv_aload_n hx hb dX2_put_7 rfl (lv_at hl 0 rfl) ?_
  refine va_get (D := D) (ci := 1) (v := .int (nI ln)) (C := RX2) (T := TX2) (N := 3) hx hb hts n_X2_put_b_X2 hown hK hP 0 rfl rfl 1 (by decide) (wAt hts 1 (w := .fieldLink RX2 15 "FluxBench$Row" "length" "I") rfl) (fun _ h9 => h9) rfl dX2_put_8 ?_
  refine lv_aload_n hx hb dX2_put_11 rfl (lv_at hl 0 rfl) ?_
  refine va_get (D := D) (ci := 1) (v := .ref a) (C := RX2) (T := TX2) (N := 3) hx hb hts n_X2_put_b_X2 hown hK hP 0 rfl rfl 0 (by decide) (wAt hts 2 (w := .fieldLink RX2 9 "FluxBench$Row" "cells" "[I") rfl) (fun _ h9 => h9) rfl dX2_put_12 ?_
  refine va_alen (v := nI 400) hx hb hK hP 1 0 rfl rfl rfl dX2_put_15 ?_
  refine lv_icmp_lt (tgt := 20) hx hb dX2_put_16 (by decide) (fun c16 => ?_) (fun c16 => ?_)
  ·
    rw [qlt (a := ln) (b := 400) (by omega) (by omega)] at c16
    refine lv_aload_n hx hb dX2_put_20 rfl (lv_at hl 0 rfl) ?_
    refine va_get (D := D) (ci := 1) (v := .ref a) (C := RX2) (T := TX2) (N := 3) hx hb hts n_X2_put_b_X2 hown hK hP 0 rfl rfl 0 (by decide) (wAt hts 2 (w := .fieldLink RX2 9 "FluxBench$Row" "cells" "[I") rfl) (fun _ h9 => h9) rfl dX2_put_21 ?_
    refine lv_aload_n hx hb dX2_put_24 rfl (lv_at hl 0 rfl) ?_
    refine va_get (D := D) (ci := 1) (v := .int (nI ln)) (C := RX2) (T := TX2) (N := 3) hx hb hts n_X2_put_b_X2 hown hK hP 0 rfl rfl 1 (by decide) (wAt hts 1 (w := .fieldLink RX2 15 "FluxBench$Row" "length" "I") rfl) (fun _ h9 => h9) rfl dX2_put_25 ?_
    refine lv_iload_n hx hb dX2_put_28 rfl (lv_at hl 1 rfl) ?_
    refine va_iast hx hb hK hP hD hS 1 0 rfl rfl (vp_in_nI (n := ln) (by omega) (by decide)) dX2_put_29 (fun H locs hP hD hS => ?_)
    rw [nI_clamp (n := ln) (by omega)] at hP hD
    have hP : va_P D vwCl [(h0, .inr (1, [.ref a, .int (nI ln), .int wd])), (a, .inl (kA 0, 400, .inl (upd f ln (nI x))))] H := hP
    have hD : va_D A [(h0, .inr (1, [.ref a, .int (nI ln), .int wd])), (a, .inl (kA 0, 400, .inl (upd f ln (nI x))))] := hD
    refine lv_aload_n hx hb dX2_put_30 rfl (lv_at hl 0 rfl) ?_
    refine lv_dup hx hb dX2_put_31 rfl ?_
    refine va_get (D := D) (ci := 1) (v := .int (nI ln)) (C := RX2) (T := TX2) (N := 3) hx hb hts n_X2_put_b_X2 hown hK hP 0 rfl rfl 1 (by decide) (wAt hts 1 (w := .fieldLink RX2 15 "FluxBench$Row" "length" "I") rfl) (fun _ h9 => h9) rfl dX2_put_32 ?_
    refine lv_iconst (v := nI 1) hx hb dX2_put_35 (by decide) ?_
    refine lv_iadd hx hb dX2_put_36 ?_
    rw [nI_add ln 1]
    refine va_put (D := D) (ci := 1) (v := .int (nI (ln + 1))) (ty := .int) (C := RX2) (T := TX2) (N := 3) hx hb hts n_X2_put_b_X2 tyX2 tyX2_ok nmX2 hown hK hP hD hS 0 rfl rfl 1 (by decide) (wAt hts 1 (w := .fieldLink RX2 15 "FluxBench$Row" "length" "I") rfl) (fun _ h9 => h9) rfl (by decide +kernel) rfl rfl (Nat.le_of_ble_eq_true rfl) dX2_put_37 (fun H locs hP hD hS => ?_)
    have hP : va_P D vwCl [(h0, .inr (1, [.ref a, .int (nI (ln + 1)), .int wd])), (a, .inl (kA 0, 400, .inl (upd f ln (nI x))))] H := hP
    have hD : va_D A [(h0, .inr (1, [.ref a, .int (nI (ln + 1)), .int wd])), (a, .inl (kA 0, 400, .inl (upd f ln (nI x))))] := hD
    refine lv_aload_n hx hb dX2_put_40 rfl (lv_at hl 0 rfl) ?_
    refine lv_iconst (v := nI 3) hx hb dX2_put_41 (by decide) ?_
    refine lv_aload_n hx hb dX2_put_42 rfl (lv_at hl 0 rfl) ?_
    refine va_get (D := D) (ci := 1) (v := .int wd) (C := RX2) (T := TX2) (N := 3) hx hb hts n_X2_put_b_X2 hown hK hP 0 rfl rfl 2 (by decide) (wAt hts 3 (w := .fieldLink RX2 19 "FluxBench$Row" "word" "I") rfl) (fun _ h9 => h9) rfl dX2_put_43 ?_
    refine lv_imul hx hb dX2_put_46 ?_
    refine lv_iload_n hx hb dX2_put_47 rfl (lv_at hl 1 rfl) ?_
    refine lv_iadd hx hb dX2_put_48 ?_
    refine va_put (D := D) (ci := 1) (v := .int (((nI 3) * wd) + (nI x))) (ty := .int) (C := RX2) (T := TX2) (N := 3) hx hb hts n_X2_put_b_X2 tyX2 tyX2_ok nmX2 hown hK hP hD hS 0 rfl rfl 2 (by decide) (wAt hts 3 (w := .fieldLink RX2 19 "FluxBench$Row" "word" "I") rfl) (fun _ h9 => h9) rfl (by decide +kernel) rfl rfl (Nat.le_of_ble_eq_true rfl) dX2_put_49 (fun H locs hP hD hS => ?_)
    have hP : va_P D vwCl [(h0, .inr (1, [.ref a, .int (nI (ln + 1)), .int (((nI 3) * wd) + (nI x))])), (a, .inl (kA 0, 400, .inl (upd f ln (nI x))))] H := hP
    have hD : va_D A [(h0, .inr (1, [.ref a, .int (nI (ln + 1)), .int (((nI 3) * wd) + (nI x))])), (a, .inl (kA 0, 400, .inl (upd f ln (nI x))))] := hD
    exact endV hx hb hr hlocks hK hP hD hS (⟨(ln + 1), (((nI 3) * wd) + (nI x)), (upd f ln (nI x)), rfl, by first | rfl | assumption | omega | (rw [if_pos (by omega)]; first | done | rfl) | (rw [if_neg (by omega)]; first | done | rfl), hf.set _ _ hx1⟩) (Nat.le_of_ble_eq_true rfl) (Nat.le_of_ble_eq_true rfl) dX2_put_52
  ·
    rw [qlt (a := ln) (b := 400) (by omega) (by omega)] at c16
    exact endV hx hb hr hlocks hK hP hD hS (⟨ln, wd, f, rfl, by first | rfl | assumption | omega | (rw [if_pos (by omega)]; first | done | rfl) | (rw [if_neg (by omega)]; first | done | rfl), by first | rfl | assumption | omega | (rw [if_pos (by omega)]; first | done | rfl) | (rw [if_neg (by omega)]; first | done | rfl)⟩) (Nat.le_of_ble_eq_true rfl) (Nat.le_of_ble_eq_true rfl) dX2_put_19

def wq_X2_put_r : List Cond := .code yX2_put cX2_put 2 none :: (([.fieldLink RX2 15 "FluxBench$Row" "length" "I", .fieldLink RX2 9 "FluxBench$Row" "cells" "[I", .fieldLink RX2 19 "FluxBench$Row" "word" "I"] : List Cond) ++ (u_ws RX2 TX2 3 ++ ([] : List Cond)))
theorem gd_X2_put_r : wq_X2_put_r.all goodWord = true := by decide +kernel
theorem n_X2_put_r_X2 : ∀ w ∈ u_ws RX2 TX2 3, w ∈ wq_X2_put_r := fun w h => List.mem_cons_of_mem _ (List.mem_append_right _ (List.mem_append_left _ h))
set_option maxHeartbeats 4000000 in
set_option maxRecDepth 100000 in
theorem c_X2_put_r (l : Launch) (D : va_G) (kA : Nat → ClassId) (z : Nat) (h0 a ln x : Nat) (wd : Int32) (f : Nat → Int32) (h1 : ln < 400) (hf : B01 f) (hx1 : x ≤ 1) : mV l D (tyL kA) z yX2_put wq_X2_put_r ({ frames := 0, cells := 0, slots := 0, locals := 0 }) [.ref h0, .int (nI x)] [(h0, .inr (1, [.ref a, .int (nI ln), .int wd])), (a, .inl (kA 0, 400, .inl f))] (fun w => ∃ (wd2 : Int32) (f2 : Nat → Int32), w = [(h0, .inr (1, [.ref a, .int (nI (ln + 1)), .int wd2])), (a, .inl (kA 0, 400, .inl f2))] ∧ (B01 f2)) := by
  refine ofV (cc := cX2_put) (maxL := 2) RX2 rfl (by decide +kernel) rfl (Nat.le_of_ble_eq_true rfl) ?_
  intro p e s m args below meth c A ls hnm hE
  obtain ⟨hx, hb, hr, hml, hts, hown, hlocks, hA, hS, hP, hK, hD, hG, hl⟩ := hE
  have hl : lv_has ls 2 [(0, .ref h0), (1, .int (nI x))] := hl
  have hH : s.heap = s.heap := rfl
  refine lv_aload_n hx hb dX2_put_0 rfl (lv_at hl 0 rfl) ?_
  refine va_get (D := D) (ci := 1) (v := .int (nI ln)) (C := RX2) (T := TX2) (N := 3) hx hb hts n_X2_put_r_X2 hown hK hP 0 rfl rfl 1 (by decide) (wAt hts 1 (w := .fieldLink RX2 15 "FluxBench$Row" "length" "I") rfl) (fun _ h9 => h9) rfl dX2_put_1 ?_
  refine lv_if_lt (tgt := 19) hx hb dX2_put_4 (by decide) (fun c4 => absurd c4 (nI_pos (n := ln) (by omega))) (fun _ => ?_)
  refine lv_aload_n hx hb dX2_put_7 rfl (lv_at hl 0 rfl) ?_
  refine va_get (D := D) (ci := 1) (v := .int (nI ln)) (C := RX2) (T := TX2) (N := 3) hx hb hts n_X2_put_r_X2 hown hK hP 0 rfl rfl 1 (by decide) (wAt hts 1 (w := .fieldLink RX2 15 "FluxBench$Row" "length" "I") rfl) (fun _ h9 => h9) rfl dX2_put_8 ?_
  refine lv_aload_n hx hb dX2_put_11 rfl (lv_at hl 0 rfl) ?_
  refine va_get (D := D) (ci := 1) (v := .ref a) (C := RX2) (T := TX2) (N := 3) hx hb hts n_X2_put_r_X2 hown hK hP 0 rfl rfl 0 (by decide) (wAt hts 2 (w := .fieldLink RX2 9 "FluxBench$Row" "cells" "[I") rfl) (fun _ h9 => h9) rfl dX2_put_12 ?_
  refine va_alen (v := nI 400) hx hb hK hP 1 0 rfl rfl rfl dX2_put_15 ?_
  refine lv_icmp_lt (tgt := 20) hx hb dX2_put_16 (by decide) (fun _ => ?_) (fun c16 => False.elim (by rw [qlt (a := ln) (b := 400) (by omega) (by omega)] at c16; omega))
  refine lv_aload_n hx hb dX2_put_20 rfl (lv_at hl 0 rfl) ?_
  refine va_get (D := D) (ci := 1) (v := .ref a) (C := RX2) (T := TX2) (N := 3) hx hb hts n_X2_put_r_X2 hown hK hP 0 rfl rfl 0 (by decide) (wAt hts 2 (w := .fieldLink RX2 9 "FluxBench$Row" "cells" "[I") rfl) (fun _ h9 => h9) rfl dX2_put_21 ?_
  refine lv_aload_n hx hb dX2_put_24 rfl (lv_at hl 0 rfl) ?_
  refine va_get (D := D) (ci := 1) (v := .int (nI ln)) (C := RX2) (T := TX2) (N := 3) hx hb hts n_X2_put_r_X2 hown hK hP 0 rfl rfl 1 (by decide) (wAt hts 1 (w := .fieldLink RX2 15 "FluxBench$Row" "length" "I") rfl) (fun _ h9 => h9) rfl dX2_put_25 ?_
  refine lv_iload_n hx hb dX2_put_28 rfl (lv_at hl 1 rfl) ?_
  refine va_iast hx hb hK hP hD hS 1 0 rfl rfl (vp_in_nI (n := ln) (by omega) (by decide)) dX2_put_29 (fun H locs hP hD hS => ?_)
  rw [nI_clamp (n := ln) (by omega)] at hP hD
  have hP : va_P D vwCl [(h0, .inr (1, [.ref a, .int (nI ln), .int wd])), (a, .inl (kA 0, 400, .inl (upd f ln (nI x))))] H := hP
  have hD : va_D A [(h0, .inr (1, [.ref a, .int (nI ln), .int wd])), (a, .inl (kA 0, 400, .inl (upd f ln (nI x))))] := hD
  refine lv_aload_n hx hb dX2_put_30 rfl (lv_at hl 0 rfl) ?_
  refine lv_dup hx hb dX2_put_31 rfl ?_
  refine va_get (D := D) (ci := 1) (v := .int (nI ln)) (C := RX2) (T := TX2) (N := 3) hx hb hts n_X2_put_r_X2 hown hK hP 0 rfl rfl 1 (by decide) (wAt hts 1 (w := .fieldLink RX2 15 "FluxBench$Row" "length" "I") rfl) (fun _ h9 => h9) rfl dX2_put_32 ?_
  refine lv_iconst (v := nI 1) hx hb dX2_put_35 (by decide) ?_
  refine lv_iadd hx hb dX2_put_36 ?_
  rw [nI_add ln 1]
  refine va_put (D := D) (ci := 1) (v := .int (nI (ln + 1))) (ty := .int) (C := RX2) (T := TX2) (N := 3) hx hb hts n_X2_put_r_X2 tyX2 tyX2_ok nmX2 hown hK hP hD hS 0 rfl rfl 1 (by decide) (wAt hts 1 (w := .fieldLink RX2 15 "FluxBench$Row" "length" "I") rfl) (fun _ h9 => h9) rfl (by decide +kernel) rfl rfl (Nat.le_of_ble_eq_true rfl) dX2_put_37 (fun H locs hP hD hS => ?_)
  have hP : va_P D vwCl [(h0, .inr (1, [.ref a, .int (nI (ln + 1)), .int wd])), (a, .inl (kA 0, 400, .inl (upd f ln (nI x))))] H := hP
  have hD : va_D A [(h0, .inr (1, [.ref a, .int (nI (ln + 1)), .int wd])), (a, .inl (kA 0, 400, .inl (upd f ln (nI x))))] := hD
  refine lv_aload_n hx hb dX2_put_40 rfl (lv_at hl 0 rfl) ?_
  refine lv_iconst (v := nI 3) hx hb dX2_put_41 (by decide) ?_
  refine lv_aload_n hx hb dX2_put_42 rfl (lv_at hl 0 rfl) ?_
  refine va_get (D := D) (ci := 1) (v := .int wd) (C := RX2) (T := TX2) (N := 3) hx hb hts n_X2_put_r_X2 hown hK hP 0 rfl rfl 2 (by decide) (wAt hts 3 (w := .fieldLink RX2 19 "FluxBench$Row" "word" "I") rfl) (fun _ h9 => h9) rfl dX2_put_43 ?_
  refine lv_imul hx hb dX2_put_46 ?_
  refine lv_iload_n hx hb dX2_put_47 rfl (lv_at hl 1 rfl) ?_
  refine lv_iadd hx hb dX2_put_48 ?_
  refine va_put (D := D) (ci := 1) (v := .int (((nI 3) * wd) + (nI x))) (ty := .int) (C := RX2) (T := TX2) (N := 3) hx hb hts n_X2_put_r_X2 tyX2 tyX2_ok nmX2 hown hK hP hD hS 0 rfl rfl 2 (by decide) (wAt hts 3 (w := .fieldLink RX2 19 "FluxBench$Row" "word" "I") rfl) (fun _ h9 => h9) rfl (by decide +kernel) rfl rfl (Nat.le_of_ble_eq_true rfl) dX2_put_49 (fun H locs hP hD hS => ?_)
  have hP : va_P D vwCl [(h0, .inr (1, [.ref a, .int (nI (ln + 1)), .int (((nI 3) * wd) + (nI x))])), (a, .inl (kA 0, 400, .inl (upd f ln (nI x))))] H := hP
  have hD : va_D A [(h0, .inr (1, [.ref a, .int (nI (ln + 1)), .int (((nI 3) * wd) + (nI x))])), (a, .inl (kA 0, 400, .inl (upd f ln (nI x))))] := hD
  exact endV hx hb hr hlocks hK hP hD hS (⟨(((nI 3) * wd) + (nI x)), (upd f ln (nI x)), rfl, hf.set _ _ hx1⟩) (Nat.le_of_ble_eq_true rfl) (Nat.le_of_ble_eq_true rfl) dX2_put_52

def wq_X2_at_b : List Cond := .code yX2_at cX2_at 2 (some .int) :: (([.fieldLink RX2 15 "FluxBench$Row" "length" "I", .fieldLink RX2 9 "FluxBench$Row" "cells" "[I"] : List Cond) ++ (u_ws RX2 TX2 3 ++ ([] : List Cond)))
theorem gd_X2_at_b : wq_X2_at_b.all goodWord = true := by decide +kernel
theorem n_X2_at_b_X2 : ∀ w ∈ u_ws RX2 TX2 3, w ∈ wq_X2_at_b := fun w h => List.mem_cons_of_mem _ (List.mem_append_right _ (List.mem_append_left _ h))
set_option maxHeartbeats 4000000 in
set_option maxRecDepth 100000 in
theorem c_X2_at_b (l : Launch) (D : va_G) (kA : Nat → ClassId) (z : Nat) (h0 a ln i : Nat) (wd : Int32) (f : Nat → Int32) (h1 : ln ≤ 400) (h2 : i < 2 ^ 31) (hf : B01 f) : mI l D (tyL kA) z yX2_at wq_X2_at_b ({ frames := 0, cells := 0, slots := 0, locals := 0 }) [.ref h0, .int (nI i)] [(h0, .inr (1, [.ref a, .int (nI ln), .int wd])), (a, .inl (kA 0, 400, .inl f))] (fun r w => ∃ (b : Nat), w = [(h0, .inr (1, [.ref a, .int (nI ln), .int wd])), (a, .inl (kA 0, 400, .inl f))] ∧ (b ≤ 1) ∧ (r = nI b) ∧ (i < ln → f i = nI b)) := by
  refine ofI (cc := cX2_at) (maxL := 2) RX2 rfl (by decide +kernel) rfl (Nat.le_of_ble_eq_true rfl) ?_
  intro p e s m args below meth c A ls hE
  obtain ⟨hx, hb, hr, hml, hts, hown, hlocks, hA, hS, hP, hK, hD, hG, hl⟩ := hE
  have hl : lv_has ls 2 [(0, .ref h0), (1, .int (nI i))] := hl
  have hH : s.heap = s.heap := rfl
  refine lv_iload_n hx hb dX2_at_0 rfl (lv_at hl 1 rfl) ?_
  refine lv_if_lt (tgt := 30) hx hb dX2_at_1 (by decide) (fun c1 => absurd c1 (nI_pos (n := i) (by omega))) (fun _ => ?_)
  refine lv_iload_n hx hb dX2_at_4 rfl (lv_at hl 1 rfl) ?_
  refine lv_aload_n hx hb dX2_at_5 rfl (lv_at hl 0 rfl) ?_
  refine va_get (D := D) (ci := 1) (v := .int (nI ln)) (C := RX2) (T := TX2) (N := 3) hx hb hts n_X2_at_b_X2 hown hK hP 0 rfl rfl 1 (by decide) (wAt hts 1 (w := .fieldLink RX2 15 "FluxBench$Row" "length" "I") rfl) (fun _ h9 => h9) rfl dX2_at_6 ?_
  refine lv_icmp_ge (tgt := 30) hx hb dX2_at_9 (by decide) (fun c9 => ?_) (fun c9 => ?_)
  ·
    rw [qle (a := ln) (b := i) (by omega) (by omega)] at c9
    refine lv_iconst (v := nI 0) hx hb dX2_at_30 (by decide) ?_
    exact endI hx hb hr hlocks hK hP hD hS (⟨0, rfl, by first | rfl | assumption | omega | (rw [if_pos (by omega)]; first | done | rfl) | (rw [if_neg (by omega)]; first | done | rfl), by first | rfl | assumption | omega | (rw [if_pos (by omega)]; first | done | rfl) | (rw [if_neg (by omega)]; first | done | rfl), fun h => by first | assumption | exact absurd h (by omega)⟩) (Nat.le_of_ble_eq_true rfl) (Nat.le_of_ble_eq_true rfl) dX2_at_31
  ·
    rw [qle (a := ln) (b := i) (by omega) (by omega)] at c9
    refine lv_iload_n hx hb dX2_at_12 rfl (lv_at hl 1 rfl) ?_
    refine lv_aload_n hx hb dX2_at_13 rfl (lv_at hl 0 rfl) ?_
    refine va_get (D := D) (ci := 1) (v := .ref a) (C := RX2) (T := TX2) (N := 3) hx hb hts n_X2_at_b_X2 hown hK hP 0 rfl rfl 0 (by decide) (wAt hts 2 (w := .fieldLink RX2 9 "FluxBench$Row" "cells" "[I") rfl) (fun _ h9 => h9) rfl dX2_at_14 ?_
    refine va_alen (v := nI 400) hx hb hK hP 1 0 rfl rfl rfl dX2_at_17 ?_
    refine lv_icmp_ge (tgt := 30) hx hb dX2_at_18 (by decide) (fun c18 => False.elim (by rw [qle (a := 400) (b := i) (by omega) (by omega)] at c18; omega)) (fun _ => ?_)
    refine lv_aload_n hx hb dX2_at_21 rfl (lv_at hl 0 rfl) ?_
    refine va_get (D := D) (ci := 1) (v := .ref a) (C := RX2) (T := TX2) (N := 3) hx hb hts n_X2_at_b_X2 hown hK hP 0 rfl rfl 0 (by decide) (wAt hts 2 (w := .fieldLink RX2 9 "FluxBench$Row" "cells" "[I") rfl) (fun _ h9 => h9) rfl dX2_at_22 ?_
    refine lv_iload_n hx hb dX2_at_25 rfl (lv_at hl 1 rfl) ?_
    refine va_iald hx hb hK hP 1 0 rfl rfl (vp_in_nI (n := i) (by omega) (by decide)) dX2_at_26 ?_
    rw [nI_clamp (n := i) (by omega)]
    obtain ⟨b9, hb9, e9⟩ := hf i
    refine W.eq (g2 := F0 m 27 ls [.int (nI b9)]) (by rw [e9]) ?_
    refine lv_goto (tgt := 31) hx hb dX2_at_27 (by decide) ?_
    exact endI hx hb hr hlocks hK hP hD hS (⟨b9, rfl, by first | rfl | assumption | omega | (rw [if_pos (by omega)]; first | done | rfl) | (rw [if_neg (by omega)]; first | done | rfl), by first | rfl | assumption | omega | (rw [if_pos (by omega)]; first | done | rfl) | (rw [if_neg (by omega)]; first | done | rfl), fun h => by first | assumption | exact absurd h (by omega)⟩) (Nat.le_of_ble_eq_true rfl) (Nat.le_of_ble_eq_true rfl) dX2_at_31
