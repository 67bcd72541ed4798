def wq_X5_init : List Cond := .code yX5_init cX5_init 1 none :: (([.methodLink RX5 1 objectInit, .instanceMethod objectInit, .code objectInit ⟨#[0xb1]⟩ 1 none, .classLink RX5 7 RX2, .instantiable RX2 3, .initialized RX2, .instanceMethod yX2_init, .fieldLink RX5 10 "FluxBench$Turn" "row" "LFluxBench$Row;", .constantDouble RX5 16 (4620693217682128896), .fieldLink RX5 18 "FluxBench$Turn" "period" "D"] : List Cond) ++ (u_ws RX2 TX2 3 ++ (u_ws RX5 TX5 2 ++ (wq_X2_init ++ ([] : List Cond)))))
theorem gd_X5_init : wq_X5_init.all goodWord = true := by decide +kernel
theorem n_X5_init_X2 : ∀ w ∈ u_ws RX2 TX2 3, w ∈ wq_X5_init := fun w h => List.mem_cons_of_mem _ (List.mem_append_right _ (List.mem_append_left _ h))
theorem n_X5_init_X5 : ∀ w ∈ u_ws RX5 TX5 2, w ∈ wq_X5_init := fun w h => List.mem_cons_of_mem _ (List.mem_append_right _ (List.mem_append_right _ (List.mem_append_left _ h)))
theorem h_X5_init_0 : GoodIn wq_X5_init (wq_X2_init) := goodIn_sub (fun w h => List.mem_cons_of_mem _ (List.mem_append_right _ (List.mem_append_right _ (List.mem_append_right _ (List.mem_append_left _ h))))) gd_X2_init
set_option maxHeartbeats 4000000 in
set_option maxRecDepth 100000 in
theorem c_X5_init (l : Launch) (D : va_G) (kA : Nat → ClassId) (z : Nat) (h0 : Nat)  : mV l D (tyL kA) z yX5_init wq_X5_init ({ frames := 2, cells := 2, slots := 403, locals := 32 }) [.ref h0] [(h0, .inr (4, [.null, .double 0]))] (fun w => ∃ (a1 a2 : Nat), w = [(h0, .inr (4, [.ref a1, .double 4620693217682128896])), (a1, .inr (1, [.ref a2, .int (nI 0), .int (nI 1)])), (a2, .inl (kA 0, 400, .inl (fun _ => 0)))]) := by
  refine ofV (cc := cX5_init) (maxL := 1) RX5 rfl (by decide +kernel) rfl (Nat.le_of_ble_eq_true rfl) ?_
  intro p e s m args below meth c A ls hnm hE
  obtain ⟨hx, hb, hr, hml, hts, hown, hlocks, hA, hS, hP, hK, hD, hG, hl⟩ := hE
  have hl : lv_has ls 1 [(0, .ref h0)] := hl
  have hH : s.heap = s.heap := rfl
  refine lv_aload_n hx hb dX5_init_0 rfl (lv_at hl 0 rfl) ?_
  refine W.objInit hx hb hown (wAt hts 1 (w := .methodLink RX5 1 objectInit) rfl) (wAt hts 2 (w := .instanceMethod objectInit) rfl) (wAt hts 3 (w := .code objectInit ⟨#[0xb1]⟩ 1 none) rfl) rfl (by rw [hml]; exact hl.1) rfl dX5_init_1 (Nat.le_of_ble_eq_true rfl) (Nat.le_of_ble_eq_true rfl) ?_
  refine W.eq (g2 := F0 m 4 ls []) rfl ?_
  refine lv_aload_n hx hb dX5_init_4 rfl (lv_at hl 0 rfl) ?_
  refine va_new (ci := 1) (fs := [.null, .int 0, .int 0]) (C := RX2) (T := TX2) (N := 3) hx hb hts n_X5_init_X2 tyX2 tyX2_ok hown (wAt hts 4 (w := .classLink RX5 7 RX2) rfl) (wAt hts 5 (w := .instantiable RX2 3) rfl) (wAt hts 6 (w := .initialized RX2) rfl) hK hP hD hS hA rfl (fun j hj => by rcases j with _ | _ | _ | _ <;> first | rfl | omega) (Nat.le_of_ble_eq_true rfl) (Nat.le_of_ble_eq_true rfl) dX5_init_5 (fun q_1 H hP hD hS => ?_)
  have hP : va_P D vwCl [(h0, .inr (4, [.null, .double 0])), (q_1, .inr (1, [.null, .int 0, .int 0]))] H := hP
  have hD : va_D A [(h0, .inr (4, [.null, .double 0])), (q_1, .inr (1, [.null, .int 0, .int 0]))] := hD
  refine lv_dup hx hb dX5_init_8 rfl ?_
  have hF := va_free (wc := [(q_1, .inr (1, [.null, .int 0, .int 0]))]) hD hS hA [1] rfl
  refine va_callv (va_runIN (As := []) (rest := [.ref q_1, .ref h0]) ⟨hx, hb, hml, hown, hts⟩ (c_X2_init l D kA z q_1  _) ⟨va_cnB 0 hts h_X5_init_0 rfl rfl rfl (hG.2.2.2.1.1 _ (List.mem_of_getElem? (i := 3) rfl)) (wAt hts 6 (w := .initialized RX2) rfl) (by decide +kernel) ⟨Nat.le_of_ble_eq_true rfl, Nat.le_of_ble_eq_true rfl⟩, rfl, (wAt hts 7 (w := .instanceMethod yX2_init) rfl)⟩ (fPs hK hP hD hS hG hF [1] (by decide) rfl) rfl rfl hl.1 rfl (lv_room (Nat.le_of_ble_eq_true rfl)) dX5_init_9 ⟨Nat.le_of_ble_eq_true rfl, Nat.le_of_ble_eq_true rfl⟩) hS (fun q _ h => hF q h) hF (fun w1 t H locs ht hvm hw hB hz1 hk1 hS => ?_)
  obtain ⟨hP, hD⟩ := fJ (wr := [(h0, .inr (4, [.null, .double 0]))]) hP hD [1] [0] rfl rfl (by decide) (by decide) hk1 hF ht hB
  try dsimp only at hw
  obtain ⟨a_1, rfl⟩ := hw
  have hP : va_P D vwCl [(h0, .inr (4, [.null, .double 0])), (q_1, .inr (1, [.ref a_1, .int (nI 0), .int (nI 1)])), (a_1, .inl (kA 0, 400, .inl (fun _ => 0)))] H := hP
  have hD : va_D A [(h0, .inr (4, [.null, .double 0])), (q_1, .inr (1, [.ref a_1, .int (nI 0), .int (nI 1)])), (a_1, .inl (kA 0, 400, .inl (fun _ => 0)))] := hD
  refine va_putF (D := D) (ci := 4) (v := .ref q_1) (ty := (tyX5 0)) (C := RX5) (T := TX5) (N := 2) hx hb hts n_X5_init_X5 tyX5 tyX5_ok nmX5 hown hK hP hD hS 0 rfl rfl 0 (by decide) (wAt hts 8 (w := .fieldLink RX5 10 "FluxBench$Turn" "row" "LFluxBench$Row;") rfl) (fun _ h9 => h9) rfl hnm rfl (by decide +kernel) rfl rfl (Nat.le_of_ble_eq_true rfl) dX5_init_12 (fun H locs hP hD hS => ?_)
  have hP : va_P D vwCl [(h0, .inr (4, [.ref q_1, .double 0])), (q_1, .inr (1, [.ref a_1, .int (nI 0), .int (nI 1)])), (a_1, .inl (kA 0, 400, .inl (fun _ => 0)))] H := hP
  have hD : va_D A [(h0, .inr (4, [.ref q_1, .double 0])), (q_1, .inr (1, [.ref a_1, .int (nI 0), .int (nI 1)])), (a_1, .inl (kA 0, 400, .inl (fun _ => 0)))] := hD
  refine lv_aload_n hx hb dX5_init_15 rfl (lv_at hl 0 rfl) ?_
  refine lv_ldc2d hx hb hown (wAt hts 9 (w := .constantDouble RX5 16 (4620693217682128896)) rfl) dX5_init_16 ?_
  refine va_put (D := D) (ci := 4) (v := .double 4620693217682128896) (ty := .double) (C := RX5) (T := TX5) (N := 2) hx hb hts n_X5_init_X5 tyX5 tyX5_ok nmX5 hown hK hP hD hS 0 rfl rfl 1 (by decide) (wAt hts 10 (w := .fieldLink RX5 18 "FluxBench$Turn" "period" "D") rfl) (fun _ h9 => h9) rfl (by decide +kernel) rfl rfl (Nat.le_of_ble_eq_true rfl) dX5_init_19 (fun H locs hP hD hS => ?_)
  have hP : va_P D vwCl [(h0, .inr (4, [.ref q_1, .double 4620693217682128896])), (q_1, .inr (1, [.ref a_1, .int (nI 0), .int (nI 1)])), (a_1, .inl (kA 0, 400, .inl (fun _ => 0)))] H := hP
  have hD : va_D A [(h0, .inr (4, [.ref q_1, .double 4620693217682128896])), (q_1, .inr (1, [.ref a_1, .int (nI 0), .int (nI 1)])), (a_1, .inl (kA 0, 400, .inl (fun _ => 0)))] := hD
  exact endV hx hb hr hlocks hK hP hD hS (⟨q_1, a_1, rfl⟩) (Nat.le_of_ble_eq_true rfl) (Nat.le_of_ble_eq_true rfl) dX5_init_22

def wq_X5_begin : List Cond := .code yX5_begin cX5_begin 1 none :: (([.fieldLink RX5 10 "FluxBench$Turn" "row" "LFluxBench$Row;", .methodLink RX5 22 yX2_empty, .instanceMethod yX2_empty, .selects RX2 yX2_empty yX2_empty, .initialized RX2, .constantDouble RX5 16 (4620693217682128896), .fieldLink RX5 18 "FluxBench$Turn" "period" "D"] : List Cond) ++ (u_ws RX5 TX5 2 ++ (wq_X2_empty ++ ([] : List Cond))))
theorem gd_X5_begin : wq_X5_begin.all goodWord = true := by decide +kernel
theorem n_X5_begin_X5 : ∀ w ∈ u_ws RX5 TX5 2, w ∈ wq_X5_begin := fun w h => List.mem_cons_of_mem _ (List.mem_append_right _ (List.mem_append_left _ h))
theorem h_X5_begin_0 : GoodIn wq_X5_begin (wsV RX5 22 RX2 yX2_empty wq_X2_empty) := goodIn_app (goodIn_r _ [2, 3, 4, 5] (by decide +kernel) (by decide +kernel)) (goodIn_sub (fun w h => List.mem_cons_of_mem _ (List.mem_append_right _ (List.mem_append_right _ (List.mem_append_left _ h)))) gd_X2_empty)
set_option maxHeartbeats 4000000 in
set_option maxRecDepth 100000 in
theorem c_X5_begin (l : Launch) (D : va_G) (kA : Nat → ClassId) (z : Nat) (h0 rw a : Nat) (pe : UInt64) (ln wd : Int32) (f : Nat → Int32)  : mV l D (tyL kA) z yX5_begin wq_X5_begin ({ frames := 1, cells := 0, slots := 0, locals := 20 }) [.ref h0] [(h0, .inr (4, [.ref rw, .double pe])), (rw, .inr (1, [.ref a, .int ln, .int wd])), (a, .inl (kA 0, 400, .inl f))] (fun w => w = [(h0, .inr (4, [.ref rw, .double 4620693217682128896])), (rw, .inr (1, [.ref a, .int (nI 0), .int (nI 1)])), (a, .inl (kA 0, 400, .inl f))]) := by
  refine ofV (cc := cX5_begin) (maxL := 1) RX5 rfl (by decide +kernel) rfl (Nat.le_of_ble_eq_true rfl) ?_
  intro p e s m args below meth c A ls hnm hE
  obtain ⟨hx, hb, hr, hml, hts, hown, hlocks, hA, hS, hP, hK, hD, hG, hl⟩ := hE
  have hl : lv_has ls 1 [(0, .ref h0)] := hl
  have hH : s.heap = s.heap := rfl
  refine lv_aload_n hx hb dX5_begin_0 rfl (lv_at hl 0 rfl) ?_
  refine va_get (D := D) (ci := 4) (v := .ref rw) (C := RX5) (T := TX5) (N := 2) hx hb hts n_X5_begin_X5 hown hK hP 0 rfl rfl 0 (by decide) (wAt hts 1 (w := .fieldLink RX5 10 "FluxBench$Turn" "row" "LFluxBench$Row;") rfl) (fun _ h9 => h9) rfl dX5_begin_1 ?_
  have hF := va_free (wc := [(rw, .inr (1, [.ref a, .int ln, .int wd])), (a, .inl (kA 0, 400, .inl f))]) hD hS hA [1, 2] rfl
  refine va_callv (va_runV (As := []) (rest := []) ⟨hx, hb, hml, hown, hts⟩ (c_X2_empty l D kA z rw a ln wd f  _) (cwV 0 hts h_X5_begin_0 rfl rfl rfl (by decide +kernel) ⟨Nat.le_of_ble_eq_true rfl, Nat.le_of_ble_eq_true rfl⟩) (fPv hK hP hD hS hG hF [1, 2] (by decide) rfl 1 1 rfl rfl rfl) rfl rfl hl.1 rfl (lv_room (Nat.le_of_ble_eq_true rfl)) dX5_begin_4 ⟨Nat.le_of_ble_eq_true rfl, Nat.le_of_ble_eq_true rfl⟩) hS (fun q _ h => hF q h) hF (fun w1 t H locs ht hvm hw hB hz1 hk1 hS => ?_)
  obtain ⟨hP, hD⟩ := fJ (wr := [(h0, .inr (4, [.ref rw, .double pe]))]) hP hD [1, 2] [0] rfl rfl (by decide) (by decide) hk1 hF ht hB
  try dsimp only at hw
  subst hw
  have hP : va_P D vwCl [(h0, .inr (4, [.ref rw, .double pe])), (rw, .inr (1, [.ref a, .int (nI 0), .int (nI 1)])), (a, .inl (kA 0, 400, .inl f))] H := hP
  have hD : va_D A [(h0, .inr (4, [.ref rw, .double pe])), (rw, .inr (1, [.ref a, .int (nI 0), .int (nI 1)])), (a, .inl (kA 0, 400, .inl f))] := hD
  refine lv_aload_n hx hb dX5_begin_7 rfl (lv_at hl 0 rfl) ?_
  refine lv_ldc2d hx hb hown (wAt hts 6 (w := .constantDouble RX5 16 (4620693217682128896)) rfl) dX5_begin_8 ?_
  refine va_put (D := D) (ci := 4) (v := .double 4620693217682128896) (ty := .double) (C := RX5) (T := TX5) (N := 2) hx hb hts n_X5_begin_X5 tyX5 tyX5_ok nmX5 hown hK hP hD hS 0 rfl rfl 1 (by decide) (wAt hts 7 (w := .fieldLink RX5 18 "FluxBench$Turn" "period" "D") rfl) (fun _ h9 => h9) rfl (by decide +kernel) rfl rfl (Nat.le_of_ble_eq_true rfl) dX5_begin_11 (fun H locs hP hD hS => ?_)
  have hP : va_P D vwCl [(h0, .inr (4, [.ref rw, .double 4620693217682128896])), (rw, .inr (1, [.ref a, .int (nI 0), .int (nI 1)])), (a, .inl (kA 0, 400, .inl f))] H := hP
  have hD : va_D A [(h0, .inr (4, [.ref rw, .double 4620693217682128896])), (rw, .inr (1, [.ref a, .int (nI 0), .int (nI 1)])), (a, .inl (kA 0, 400, .inl f))] := hD
  exact endV hx hb hr hlocks hK hP hD hS (rfl) (Nat.le_of_ble_eq_true rfl) (Nat.le_of_ble_eq_true rfl) dX5_begin_14

def wq_X5_nearestEven : List Cond := .code yX5_nearestEven cX5_nearestEven 6 (some .int) :: (([.constantDouble RX5 45 (4602678819172646912)] : List Cond) ++ ([] : List Cond))
theorem gd_X5_nearestEven : wq_X5_nearestEven.all goodWord = true := by decide +kernel
set_option maxHeartbeats 4000000 in
set_option maxRecDepth 100000 in
theorem c_X5_nearestEven (l : Launch) (D : va_G) (kA : Nat → ClassId) (z : Nat) (d : UInt64) (hd : FP.Core.dIsNaN d = false) : mI l D (tyL kA) z yX5_nearestEven wq_X5_nearestEven ({ frames := 0, cells := 0, slots := 0, locals := 0 }) [.double d] [] (fun r w => ∃ (v : Int32), w = [] ∧ (r = v)) := by
  refine ofI (cc := cX5_nearestEven) (maxL := 6) RX5 rfl (by decide +kernel) rfl (Nat.le_of_ble_eq_true rfl) ?_
  intro p e s m args below meth c A ls hE
  obtain ⟨hx, hb, hr, hml, hts, hown, hlocks, hA, hS, hP, hK, hD, hG, hl⟩ := hE
  have hl : lv_has ls 6 [(0, .double d)] := hl
  have hH : s.heap = s.heap := rfl
  refine lv_dload_n hx hb dX5_nearestEven_0 rfl (lv_at hl 0 rfl) ?_
  refine lv_d2i hx hb dX5_nearestEven_1 ?_
  refine lv_istore_n (lv' := [(2, .int (FP.d2i d)), (0, .double d)]) hx hb dX5_nearestEven_2 rfl hl (by decide) rfl (fun ls hl => ?_)
  refine lv_dload_n hx hb dX5_nearestEven_3 rfl (lv_at hl 1 rfl) ?_
  refine lv_iload_n hx hb dX5_nearestEven_4 rfl (lv_at hl 0 rfl) ?_
  refine lv_i2d hx hb dX5_nearestEven_5 ?_
  refine lv_dsub hx hb dX5_nearestEven_6 (n64 (FP.Core.dsub_out hd (i2d_fin' _))) ?_
  refine lv_dstore_n (lv' := [(3, .double (FP.dsub d (FP.i2d (FP.d2i d)))), (2, .int (FP.d2i d)), (0, .double d)]) hx hb dX5_nearestEven_7 rfl hl (by decide) rfl (fun ls hl => ?_)
  refine lv_dload_n hx hb dX5_nearestEven_8 rfl (lv_at hl 0 rfl) ?_
  refine lv_ldc2d hx hb hown (wAt hts 1 (w := .constantDouble RX5 45 (4602678819172646912)) rfl) dX5_nearestEven_9 ?_
  refine lv_dcmp hx hb dX5_nearestEven_12 ?_
  refine lv_if_gt (tgt := 30) hx hb dX5_nearestEven_13 (by decide) (fun c13 => ?_) (fun c13 => ?_)
  ·
    refine lv_iconst (v := nI 1) hx hb dX5_nearestEven_30 (by decide) ?_
    refine lv_goto (tgt := 35) hx hb dX5_nearestEven_31 (by decide) ?_
    refine lv_istore (lv' := [(5, .int (nI 1)), (3, .double (FP.dsub d (FP.i2d (FP.d2i d)))), (2, .int (FP.d2i d)), (0, .double d)]) hx hb dX5_nearestEven_35 hl (by decide) rfl (fun ls hl => ?_)
    refine lv_iload hx hb dX5_nearestEven_37 (lv_at hl 0 rfl) ?_
    refine lv_if_eq (tgt := 48) hx hb dX5_nearestEven_39 (by decide) (fun c39 => absurd c39 (by decide)) (fun _ => ?_)
    refine lv_iload_n hx hb dX5_nearestEven_42 rfl (lv_at hl 2 rfl) ?_
    refine lv_iconst (v := nI 1) hx hb dX5_nearestEven_43 (by decide) ?_
    refine lv_iadd hx hb dX5_nearestEven_44 ?_
    refine lv_goto (tgt := 49) hx hb dX5_nearestEven_45 (by decide) ?_
    exact endI hx hb hr hlocks hK hP hD hS (⟨((FP.d2i d) + (nI 1)), rfl, by first | rfl | assumption | omega | (rw [if_pos (by omega)]; first | done | rfl) | (rw [if_neg (by omega)]; first | done | rfl)⟩) (Nat.le_of_ble_eq_true rfl) (Nat.le_of_ble_eq_true rfl) dX5_nearestEven_49
  ·
    refine lv_dload_n hx hb dX5_nearestEven_16 rfl (lv_at hl 0 rfl) ?_
    refine lv_ldc2d hx hb hown (wAt hts 1 (w := .constantDouble RX5 45 (4602678819172646912)) rfl) dX5_nearestEven_17 ?_
    refine lv_dcmp hx hb dX5_nearestEven_20 ?_
    refine lv_if_ne (tgt := 34) hx hb dX5_nearestEven_21 (by decide) (fun c21 => ?_) (fun c21 => ?_)
    ·
      refine lv_iconst (v := nI 0) hx hb dX5_nearestEven_34 (by decide) ?_
      refine lv_istore (lv' := [(5, .int (nI 0)), (3, .double (FP.dsub d (FP.i2d (FP.d2i d)))), (2, .int (FP.d2i d)), (0, .double d)]) hx hb dX5_nearestEven_35 hl (by decide) rfl (fun ls hl => ?_)
      refine lv_iload hx hb dX5_nearestEven_37 (lv_at hl 0 rfl) ?_
      refine lv_if_eq (tgt := 48) hx hb dX5_nearestEven_39 (by decide) (fun _ => ?_) (fun c39 => absurd (by decide) c39)
      refine lv_iload_n hx hb dX5_nearestEven_48 rfl (lv_at hl 2 rfl) ?_
      exact endI hx hb hr hlocks hK hP hD hS (⟨(FP.d2i d), rfl, by first | rfl | assumption | omega | (rw [if_pos (by omega)]; first | done | rfl) | (rw [if_neg (by omega)]; first | done | rfl)⟩) (Nat.le_of_ble_eq_true rfl) (Nat.le_of_ble_eq_true rfl) dX5_nearestEven_49
    ·
      refine lv_iload_n hx hb dX5_nearestEven_24 rfl (lv_at hl 1 rfl) ?_
      refine lv_iconst (v := nI 2) hx hb dX5_nearestEven_25 (by decide) ?_
      refine lv_irem hx hb dX5_nearestEven_26 (by decide) ?_
      refine lv_if_eq (tgt := 34) hx hb dX5_nearestEven_27 (by decide) (fun c27 => ?_) (fun c27 => ?_)
      ·
        refine lv_iconst (v := nI 0) hx hb dX5_nearestEven_34 (by decide) ?_
        refine lv_istore (lv' := [(5, .int (nI 0)), (3, .double (FP.dsub d (FP.i2d (FP.d2i d)))), (2, .int (FP.d2i d)), (0, .double d)]) hx hb dX5_nearestEven_35 hl (by decide) rfl (fun ls hl => ?_)
        refine lv_iload hx hb dX5_nearestEven_37 (lv_at hl 0 rfl) ?_
        refine lv_if_eq (tgt := 48) hx hb dX5_nearestEven_39 (by decide) (fun _ => ?_) (fun c39 => absurd (by decide) c39)
        refine lv_iload_n hx hb dX5_nearestEven_48 rfl (lv_at hl 2 rfl) ?_
        exact endI hx hb hr hlocks hK hP hD hS (⟨(FP.d2i d), rfl, by first | rfl | assumption | omega | (rw [if_pos (by omega)]; first | done | rfl) | (rw [if_neg (by omega)]; first | done | rfl)⟩) (Nat.le_of_ble_eq_true rfl) (Nat.le_of_ble_eq_true rfl) dX5_nearestEven_49
      ·
        refine lv_iconst (v := nI 1) hx hb dX5_nearestEven_30 (by decide) ?_
        refine lv_goto (tgt := 35) hx hb dX5_nearestEven_31 (by decide) ?_
        refine lv_istore (lv' := [(5, .int (nI 1)), (3, .double (FP.dsub d (FP.i2d (FP.d2i d)))), (2, .int (FP.d2i d)), (0, .double d)]) hx hb dX5_nearestEven_35 hl (by decide) rfl (fun ls hl => ?_)
        refine lv_iload hx hb dX5_nearestEven_37 (lv_at hl 0 rfl) ?_
        refine lv_if_eq (tgt := 48) hx hb dX5_nearestEven_39 (by decide) (fun c39 => absurd c39 (by decide)) (fun _ => ?_)
        refine lv_iload_n hx hb dX5_nearestEven_42 rfl (lv_at hl 2 rfl) ?_
        refine lv_iconst (v := nI 1) hx hb dX5_nearestEven_43 (by decide) ?_
        refine lv_iadd hx hb dX5_nearestEven_44 ?_
        refine lv_goto (tgt := 49) hx hb dX5_nearestEven_45 (by decide) ?_
        exact endI hx hb hr hlocks hK hP hD hS (⟨((FP.d2i d) + (nI 1)), rfl, by first | rfl | assumption | omega | (rw [if_pos (by omega)]; first | done | rfl) | (rw [if_neg (by omega)]; first | done | rfl)⟩) (Nat.le_of_ble_eq_true rfl) (Nat.le_of_ble_eq_true rfl) dX5_nearestEven_49

def wq_X5_held : List Cond := .code yX5_held cX5_held 2 (some .double) :: (([.constantDouble RX5 47 (4618441417868443648), .constantDouble RX5 49 (4622382067542392832)] : List Cond) ++ ([] : List Cond))
theorem gd_X5_held : wq_X5_held.all goodWord = true := by decide +kernel
set_option maxHeartbeats 4000000 in
set_option maxRecDepth 100000 in
theorem c_X5_held (l : Launch) (D : va_G) (kA : Nat → ClassId) (z : Nat) (d : UInt64) (hd : FP.Core.dIsNaN d = false) : mD l D (tyL kA) z yX5_held wq_X5_held ({ frames := 0, cells := 0, slots := 0, locals := 0 }) [.double d] [] (fun r w => w = [] ∧ (dP r)) := by
  refine ofD (cc := cX5_held) (maxL := 2) RX5 rfl (by decide +kernel) rfl (Nat.le_of_ble_eq_true rfl) ?_
  intro p e s m args below meth c A ls hE
  obtain ⟨hx, hb, hr, hml, hts, hown, hlocks, hA, hS, hP, hK, hD, hG, hl⟩ := hE
  have hl : lv_has ls 2 [(0, .double d)] := hl
  have hH : s.heap = s.heap := rfl
  refine lv_dload_n hx hb dX5_held_0 rfl (lv_at hl 0 rfl) ?_
  refine lv_ldc2d hx hb hown (wAt hts 1 (w := .constantDouble RX5 47 (4618441417868443648)) rfl) dX5_held_1 ?_
  refine lv_dcmp hx hb dX5_held_4 ?_
  refine lv_if_ge (tgt := 12) hx hb dX5_held_5 (by decide) (fun c5 => ?_) (fun c5 => ?_)
  ·
    refine lv_dload_n hx hb dX5_held_12 rfl (lv_at hl 0 rfl) ?_
    refine lv_ldc2d hx hb hown (wAt hts 2 (w := .constantDouble RX5 49 (4622382067542392832)) rfl) dX5_held_13 ?_
    refine lv_dcmp hx hb dX5_held_16 ?_
    refine lv_if_le (tgt := 26) hx hb dX5_held_17 (by decide) (fun c17 => ?_) (fun c17 => ?_)
    ·
      refine lv_dload_n hx hb dX5_held_26 rfl (lv_at hl 0 rfl) ?_
      exact endD hx hb hr hlocks hK hP hD hS (⟨rfl, by first | exact dP_11 | exact dP_of hd (cmpG (Int32.not_lt.mpr c5)) (cmpL (Int32.not_lt.mpr c17))⟩) (Nat.le_of_ble_eq_true rfl) (Nat.le_of_ble_eq_true rfl) dX5_held_27
    ·
      refine lv_ldc2d hx hb hown (wAt hts 2 (w := .constantDouble RX5 49 (4622382067542392832)) rfl) dX5_held_20 ?_
      refine lv_goto (tgt := 27) hx hb dX5_held_23 (by decide) ?_
      exact endD hx hb hr hlocks hK hP hD hS (⟨rfl, by first | exact dP_11 | exact dP_of hd (cmpG (Int32.not_lt.mpr c5)) (cmpL (Int32.not_lt.mpr c17))⟩) (Nat.le_of_ble_eq_true rfl) (Nat.le_of_ble_eq_true rfl) dX5_held_27
  ·
    refine lv_ldc2d hx hb hown (wAt hts 1 (w := .constantDouble RX5 47 (4618441417868443648)) rfl) dX5_held_8 ?_
    exact endD hx hb hr hlocks hK hP hD hS (⟨rfl, dP_6⟩) (Nat.le_of_ble_eq_true rfl) (Nat.le_of_ble_eq_true rfl) dX5_held_11

def wq_X5_hear : List Cond := .code yX5_hear cX5_hear 4 none :: (([.fieldLink RX5 18 "FluxBench$Turn" "period" "D", .methodLink RX5 25 yX5_nearestEven, .static yX5_nearestEven, .initialized RX5, .methodLink RX5 29 Lib.Math.max.name, .static Lib.Math.max.name, .initialized "java/lang/Math", .code Lib.Math.max.name Lib.Math.max.code 2 (some .int), .fieldLink RX5 10 "FluxBench$Turn" "row" "LFluxBench$Row;", .methodLink RX5 35 yX2_put, .instanceMethod yX2_put, .selects RX2 yX2_put yX2_put, .initialized RX2, .constantDouble RX5 39 (4598175219545276416), .methodLink RX5 41 yX5_held, .static yX5_held] : List Cond) ++ (u_ws RX5 TX5 2 ++ (wq_X5_nearestEven ++ (wq_X2_put_b ++ (wq_X5_held ++ ([] : List Cond))))))
theorem gd_X5_hear : wq_X5_hear.all goodWord = true := by decide +kernel
theorem n_X5_hear_X5 : ∀ w ∈ u_ws RX5 TX5 2, w ∈ wq_X5_hear := fun w h => List.mem_cons_of_mem _ (List.mem_append_right _ (List.mem_append_left _ h))
theorem h_X5_hear_0 : GoodIn wq_X5_hear (va_wsS RX5 25 yX5_nearestEven wq_X5_nearestEven) := goodIn_app (goodIn_r _ [2, 3, 4] (by decide +kernel) (by decide +kernel)) (goodIn_sub (fun w h => List.mem_cons_of_mem _ (List.mem_append_right _ (List.mem_append_right _ (List.mem_append_left _ h)))) gd_X5_nearestEven)
theorem h_X5_hear_1 : GoodIn wq_X5_hear (wsV RX5 35 RX2 yX2_put wq_X2_put_b) := goodIn_app (goodIn_r _ [10, 11, 12, 13] (by decide +kernel) (by decide +kernel)) (goodIn_sub (fun w h => List.mem_cons_of_mem _ (List.mem_append_right _ (List.mem_append_right _ (List.mem_append_right _ (List.mem_append_left _ h))))) gd_X2_put_b)
theorem h_X5_hear_2 : GoodIn wq_X5_hear (va_wsS RX5 41 yX5_held wq_X5_held) := goodIn_app (goodIn_r _ [15, 16, 4] (by decide +kernel) (by decide +kernel)) (goodIn_sub (fun w h => List.mem_cons_of_mem _ (List.mem_append_right _ (List.mem_append_right _ (List.mem_append_right _ (List.mem_append_right _ (List.mem_append_left _ h)))))) gd_X5_held)
set_option maxHeartbeats 4000000 in
set_option maxRecDepth 100000 in
theorem c_X5_hear (l : Launch) (D : va_G) (kA : Nat → ClassId) (z : Nat) (h0 rw a ln : Nat) (x wd : Int32) (pe : UInt64) (f : Nat → Int32) (h1 : ln ≤ 400) (hf : B01 f) (hp : dP pe) : mV l D (tyL kA) z yX5_hear wq_X5_hear ({ frames := 1, cells := 0, slots := 0, locals := 25 }) [.ref h0, .int x] [(h0, .inr (4, [.ref rw, .double pe])), (rw, .inr (1, [.ref a, .int (nI ln), .int wd])), (a, .inl (kA 0, 400, .inl f))] (fun w => ∃ (ln2 : Nat) (wd2 : Int32) (pe2 : UInt64) (f2 : Nat → Int32), w = [(h0, .inr (4, [.ref rw, .double pe2])), (rw, .inr (1, [.ref a, .int (nI ln2), .int wd2])), (a, .inl (kA 0, 400, .inl f2))] ∧ (ln2 ≤ 400) ∧ (B01 f2) ∧ (dP pe2)) := by
  refine ofV (cc := cX5_hear) (maxL := 4) RX5 rfl (by decide +kernel) rfl (Nat.le_of_ble_eq_true rfl) ?_
  intro p e s m args below meth c A ls hnm hE
  obtain ⟨hx, hb, hr, hml, hts, hown, hlocks, hA, hS, hP, hK, hD, hG, hl⟩ := hE
  have hl : lv_has ls 4 [(0, .ref h0), (1, .int x)] := hl
  have hH : s.heap = s.heap := rfl
  refine lv_iconst (v := nI 1) hx hb dX5_hear_0 (by decide) ?_
  refine lv_iload_n hx hb dX5_hear_1 rfl (lv_at hl 1 rfl) ?_
  refine lv_i2d hx hb dX5_hear_2 ?_
  refine lv_aload_n hx hb dX5_hear_3 rfl (lv_at hl 0 rfl) ?_
  refine va_get (D := D) (ci := 4) (v := .double pe) (C := RX5) (T := TX5) (N := 2) hx hb hts n_X5_hear_X5 hown hK hP 0 rfl rfl 1 (by decide) (wAt hts 1 (w := .fieldLink RX5 18 "FluxBench$Turn" "period" "D") rfl) (fun _ h9 => h9) rfl dX5_hear_4 ?_
  refine lv_ddiv hx hb dX5_hear_7 (n64 (FP.Core.ddiv_out (i2d_fin' _).notNaN hp.1 hp.2.1)) ?_
  have hF := va_free (wc := []) hD hS hA [] rfl
  refine va_calli (va_runS (As := [.double (FP.ddiv (FP.i2d x) pe)]) (rest := [.int (nI 1)]) ⟨hx, hb, hml, hown, hts⟩ (c_X5_nearestEven l D kA z (FP.ddiv (FP.i2d x) pe) (FP.Core.ddiv_out (i2d_fin' _).notNaN hp.1 hp.2.1) _) (va_cwS 1 hts h_X5_hear_0 rfl rfl rfl (by decide +kernel) ⟨Nat.le_of_ble_eq_true rfl, Nat.le_of_ble_eq_true rfl⟩) (fPs hK hP hD hS hG hF [] (by decide) rfl) rfl rfl hl.1 rfl (lv_room (Nat.le_of_ble_eq_true rfl)) dX5_hear_8 ⟨Nat.le_of_ble_eq_true rfl, Nat.le_of_ble_eq_true rfl⟩) hS (fun q _ h => hF q h) hF (fun r_1 w1 t H locs ht hvm hw hB hz1 hk1 hS => ?_)
  obtain ⟨hP, hD⟩ := fJ (wr := [(h0, .inr (4, [.ref rw, .double pe])), (rw, .inr (1, [.ref a, .int (nI ln), .int wd])), (a, .inl (kA 0, 400, .inl f))]) hP hD [] [0, 1, 2] rfl rfl (by decide) (by decide) hk1 hF ht hB
  try dsimp only at hw
  obtain ⟨v_1, rfl, e_1⟩ := hw
  replace e_1 := e_1.symm
  subst e_1
  have hP : va_P D vwCl [(h0, .inr (4, [.ref rw, .double pe])), (rw, .inr (1, [.ref a, .int (nI ln), .int wd])), (a, .inl (kA 0, 400, .inl f))] H := hP
  have hD : va_D A [(h0, .inr (4, [.ref rw, .double pe])), (rw, .inr (1, [.ref a, .int (nI ln), .int wd])), (a, .inl (kA 0, 400, .inl f))] := hD
  refine va_mmax hx hb (by rw [hml]; exact hl.1.symm) hown (wAt hts 5 (w := .methodLink RX5 29 Lib.Math.max.name) rfl) (wAt hts 6 (w := .static Lib.Math.max.name) rfl) (wAt hts 7 (w := .initialized "java/lang/Math") rfl) (wAt hts 8 (w := .code Lib.Math.max.name Lib.Math.max.code 2 (some .int)) rfl) (Nat.le_of_ble_eq_true rfl) (Nat.le_of_ble_eq_true rfl) (Nat.le_of_ble_eq_true rfl) (Nat.le_of_ble_eq_true rfl) dX5_hear_11 ?_
  obtain ⟨k9, hk1, hk2, e9⟩ := mx1 v_1
  rw [e9]
  refine lv_istore_n (lv' := [(2, .int (nI k9)), (0, .ref h0), (1, .int x)]) hx hb dX5_hear_14 rfl hl (by decide) rfl (fun ls hl => ?_)
  refine lv_iconst (v := nI 1) hx hb dX5_hear_15 (by decide) ?_
  refine lv_istore_n (lv' := [(3, .int (nI 1)), (2, .int (nI k9)), (0, .ref h0), (1, .int x)]) hx hb dX5_hear_16 rfl hl (by decide) rfl (fun ls hl => ?_)
  have lp_17 : ∀ (n_17 : Nat) (i : Nat) (ln2 : Nat) (wd2 : Int32) (f2 : Nat → Int32), k9 - i < n_17 → (1 ≤ i) → (i ≤ k9) → (ln2 ≤ 400) → (B01 f2) → ∀ (H : Heap) (locs : List Loc) (ls : Array Slot), va_P D vwCl [(h0, .inr (4, [.ref rw, .double pe])), (rw, .inr (1, [.ref a, .int (nI ln2), .int wd2])), (a, .inl (kA 0, 400, .inl f2))] H → va_D A [(h0, .inr (4, [.ref rw, .double pe])), (rw, .inr (1, [.ref a, .int (nI ln2), .int wd2])), (a, .inl (kA 0, 400, .inl f2))] → va_S A s.heap H locs → lv_has ls 4 [(3, .int (nI i)), (2, .int (nI k9)), (0, .ref h0), (1, .int x)] → W p l e ({ frames := 1, cells := 0, slots := 0, locals := 25 }) s m args below meth c H locs 0 0 (MQ below (va_Qv (fun w => ∃ (ln2 : Nat) (wd2 : Int32) (pe2 : UInt64) (f2 : Nat → Int32), w = [(h0, .inr (4, [.ref rw, .double pe2])), (rw, .inr (1, [.ref a, .int (nI ln2), .int wd2])), (a, .inl (kA 0, 400, .inl f2))] ∧ (ln2 ≤ 400) ∧ (B01 f2) ∧ (dP pe2)) (fB D (tyL kA) A) A) args s 0 0 A) (F0 m 17 ls []) := by
    clear hP hD hS hl
    intro n_17
    induction n_17 with
    | zero =>
      intro i ln2 wd2 f2 hm_17 hi1 hi2 hl2 hb2
      exact absurd hm_17 (by omega)
    | succ n_17 ih_17 =>
      intro i ln2 wd2 f2 hm_17 hi1 hi2 hl2 hb2 H locs ls hP hD hS hl
      refine lv_iload_n hx hb dX5_hear_17 rfl (lv_at hl 0 rfl) ?_
      refine lv_iload_n hx hb dX5_hear_18 rfl (lv_at hl 1 rfl) ?_
      refine lv_icmp_ge (tgt := 36) hx hb dX5_hear_19 (by decide) (fun c19 => ?_) (fun c19 => ?_)
      ·
        rw [qle (a := k9) (b := i) (by omega) (by omega)] at c19
        refine lv_aload_n hx hb dX5_hear_36 rfl (lv_at hl 2 rfl) ?_
        refine va_get (D := D) (ci := 4) (v := .ref rw) (C := RX5) (T := TX5) (N := 2) hx hb hts n_X5_hear_X5 hown hK hP 0 rfl rfl 0 (by decide) (wAt hts 9 (w := .fieldLink RX5 10 "FluxBench$Turn" "row" "LFluxBench$Row;") rfl) (fun _ h9 => h9) rfl dX5_hear_37 ?_
        refine lv_iconst (v := nI 1) hx hb dX5_hear_40 (by decide) ?_
        have hF := va_free (wc := [(rw, .inr (1, [.ref a, .int (nI ln2), .int wd2])), (a, .inl (kA 0, 400, .inl f2))]) hD hS hA [1, 2] rfl
        refine va_callv (va_runV (As := [.int (nI 1)]) (rest := []) ⟨hx, hb, hml, hown, hts⟩ (c_X2_put_b l D kA z rw a ln2 1 wd2 f2 (by first | assumption | omega) (by first | assumption | omega) (by first | assumption | omega) _) (cwV 1 hts h_X5_hear_1 rfl rfl rfl (by decide +kernel) ⟨Nat.le_of_ble_eq_true rfl, Nat.le_of_ble_eq_true rfl⟩) (fPv hK hP hD hS hG hF [1, 2] (by decide) rfl 1 1 rfl rfl rfl) rfl rfl hl.1 rfl (lv_room (Nat.le_of_ble_eq_true rfl)) dX5_hear_41 ⟨Nat.le_of_ble_eq_true rfl, Nat.le_of_ble_eq_true rfl⟩) hS (fun q _ h => hF q h) hF (fun w1 t H locs ht hvm hw hB hz1 hk1 hS => ?_)
        obtain ⟨hP, hD⟩ := fJ (wr := [(h0, .inr (4, [.ref rw, .double pe]))]) hP hD [1, 2] [0] rfl rfl (by decide) (by decide) hk1 hF ht hB
        try dsimp only at hw
        obtain ⟨ln_1, wd_1, f_1, rfl, e_2, b_1⟩ := hw
        have hP : va_P D vwCl [(h0, .inr (4, [.ref rw, .double pe])), (rw, .inr (1, [.ref a, .int (nI ln_1), .int wd_1])), (a, .inl (kA 0, 400, .inl f_1))] H := hP
        have hD : va_D A [(h0, .inr (4, [.ref rw, .double pe])), (rw, .inr (1, [.ref a, .int (nI ln_1), .int wd_1])), (a, .inl (kA 0, 400, .inl f_1))] := hD
        have n1 := FP.Core.ddiv_out (i2d_fin' x).notNaN (i2d_fin' (nI k9)) (i2d_nz (nI_ne0 (by omega) hk2))
        have n2 := FP.Core.dsub_out n1 hp.1
        have n3 := FP.Core.dmul_out' n2 q25.1 q25.2
        have n4 := FP.Core.dadd_out' hp.1 n3
        refine lv_aload_n hx hb dX5_hear_44 rfl (lv_at hl 2 rfl) ?_
        refine lv_aload_n hx hb dX5_hear_45 rfl (lv_at hl 2 rfl) ?_
        refine va_get (D := D) (ci := 4) (v := .double pe) (C := RX5) (T := TX5) (N := 2) hx hb hts n_X5_hear_X5 hown hK hP 0 rfl rfl 1 (by decide) (wAt hts 1 (w := .fieldLink RX5 18 "FluxBench$Turn" "period" "D") rfl) (fun _ h9 => h9) rfl dX5_hear_46 ?_
        refine lv_iload_n hx hb dX5_hear_49 rfl (lv_at hl 3 rfl) ?_
        refine lv_i2d hx hb dX5_hear_50 ?_
        refine lv_iload_n hx hb dX5_hear_51 rfl (lv_at hl 1 rfl) ?_
        refine lv_i2d hx hb dX5_hear_52 ?_
        refine lv_ddiv hx hb dX5_hear_53 (n64 n1) ?_
        refine lv_aload_n hx hb dX5_hear_54 rfl (lv_at hl 2 rfl) ?_
        refine va_get (D := D) (ci := 4) (v := .double pe) (C := RX5) (T := TX5) (N := 2) hx hb hts n_X5_hear_X5 hown hK hP 0 rfl rfl 1 (by decide) (wAt hts 1 (w := .fieldLink RX5 18 "FluxBench$Turn" "period" "D") rfl) (fun _ h9 => h9) rfl dX5_hear_55 ?_
        refine lv_dsub hx hb dX5_hear_58 (n64 n2) ?_
        refine lv_ldc2d hx hb hown (wAt hts 14 (w := .constantDouble RX5 39 (4598175219545276416)) rfl) dX5_hear_59 ?_
        refine lv_dmul hx hb dX5_hear_62 (n64 n3) ?_
        refine lv_dadd hx hb dX5_hear_63 (n64 n4) ?_
        have hF := va_free (wc := []) hD hS hA [] rfl
        refine va_calld (va_runS (As := [.double (FP.dadd pe (FP.dmul (FP.dsub (FP.ddiv (FP.i2d x) (FP.i2d (nI k9))) pe) 4598175219545276416))]) (rest := [.ref h0]) ⟨hx, hb, hml, hown, hts⟩ (c_X5_held l D kA z (FP.dadd pe (FP.dmul (FP.dsub (FP.ddiv (FP.i2d x) (FP.i2d (nI k9))) pe) 4598175219545276416)) n4 _) (va_cwS 1 hts h_X5_hear_2 rfl rfl rfl (by decide +kernel) ⟨Nat.le_of_ble_eq_true rfl, Nat.le_of_ble_eq_true rfl⟩) (fPs hK hP hD hS hG hF [] (by decide) rfl) rfl rfl hl.1 rfl (lv_room (Nat.le_of_ble_eq_true rfl)) dX5_hear_64 ⟨Nat.le_of_ble_eq_true rfl, Nat.le_of_ble_eq_true rfl⟩) hS (fun q _ h => hF q h) hF (fun r_2 w1 t H locs ht hvm hw hB hz1 hk1 hS => ?_)
        obtain ⟨hP, hD⟩ := fJ (wr := [(h0, .inr (4, [.ref rw, .double pe])), (rw, .inr (1, [.ref a, .int (nI ln_1), .int wd_1])), (a, .inl (kA 0, 400, .inl f_1))]) hP hD [] [0, 1, 2] rfl rfl (by decide) (by decide) hk1 hF ht hB
        try dsimp only at hw
        obtain ⟨rfl, p_1⟩ := hw
        have hP : va_P D vwCl [(h0, .inr (4, [.ref rw, .double pe])), (rw, .inr (1, [.ref a, .int (nI ln_1), .int wd_1])), (a, .inl (kA 0, 400, .inl f_1))] H := hP
        have hD : va_D A [(h0, .inr (4, [.ref rw, .double pe])), (rw, .inr (1, [.ref a, .int (nI ln_1), .int wd_1])), (a, .inl (kA 0, 400, .inl f_1))] := hD
        refine va_put (D := D) (ci := 4) (v := .double r_2) (ty := .double) (C := RX5) (T := TX5) (N := 2) hx hb hts n_X5_hear_X5 tyX5 tyX5_ok nmX5 hown hK hP hD hS 0 rfl rfl 1 (by decide) (wAt hts 1 (w := .fieldLink RX5 18 "FluxBench$Turn" "period" "D") rfl) (fun _ h9 => h9) rfl (by decide +kernel) rfl rfl (Nat.le_of_ble_eq_true rfl) dX5_hear_67 (fun H locs hP hD hS => ?_)
        have hP : va_P D vwCl [(h0, .inr (4, [.ref rw, .double r_2])), (rw, .inr (1, [.ref a, .int (nI ln_1), .int wd_1])), (a, .inl (kA 0, 400, .inl f_1))] H := hP
        have hD : va_D A [(h0, .inr (4, [.ref rw, .double r_2])), (rw, .inr (1, [.ref a, .int (nI ln_1), .int wd_1])), (a, .inl (kA 0, 400, .inl f_1))] := hD
        exact endV hx hb hr hlocks hK hP hD hS (⟨ln_1, wd_1, r_2, f_1, rfl, by first | rfl | assumption | omega | (rw [if_pos (by omega)]; first | done | rfl) | (rw [if_neg (by omega)]; first | done | rfl), by first | rfl | assumption | omega | (rw [if_pos (by omega)]; first | done | rfl) | (rw [if_neg (by omega)]; first | done | rfl), by first | rfl | assumption | omega | (rw [if_pos (by omega)]; first | done | rfl) | (rw [if_neg (by omega)]; first | done | rfl)⟩) (Nat.le_of_ble_eq_true rfl) (Nat.le_of_ble_eq_true rfl) dX5_hear_70
      ·
        rw [qle (a := k9) (b := i) (by omega) (by omega)] at c19
        refine lv_aload_n hx hb dX5_hear_22 rfl (lv_at hl 2 rfl) ?_
        refine va_get (D := D) (ci := 4) (v := .ref rw) (C := RX5) (T := TX5) (N := 2) hx hb hts n_X5_hear_X5 hown hK hP 0 rfl rfl 0 (by decide) (wAt hts 9 (w := .fieldLink RX5 10 "FluxBench$Turn" "row" "LFluxBench$Row;") rfl) (fun _ h9 => h9) rfl dX5_hear_23 ?_
        refine lv_iconst (v := nI 0) hx hb dX5_hear_26 (by decide) ?_
        have hF := va_free (wc := [(rw, .inr (1, [.ref a, .int (nI ln2), .int wd2])), (a, .inl (kA 0, 400, .inl f2))]) hD hS hA [1, 2] rfl
        refine va_callv (va_runV (As := [.int (nI 0)]) (rest := []) ⟨hx, hb, hml, hown, hts⟩ (c_X2_put_b l D kA z rw a ln2 0 wd2 f2 (by first | assumption | omega) (by first | assumption | omega) (by first | assumption | omega) _) (cwV 1 hts h_X5_hear_1 rfl rfl rfl (by decide +kernel) ⟨Nat.le_of_ble_eq_true rfl, Nat.le_of_ble_eq_true rfl⟩) (fPv hK hP hD hS hG hF [1, 2] (by decide) rfl 1 1 rfl rfl rfl) rfl rfl hl.1 rfl (lv_room (Nat.le_of_ble_eq_true rfl)) dX5_hear_27 ⟨Nat.le_of_ble_eq_true rfl, Nat.le_of_ble_eq_true rfl⟩) hS (fun q _ h => hF q h) hF (fun w1 t H locs ht hvm hw hB hz1 hk1 hS => ?_)
        obtain ⟨hP, hD⟩ := fJ (wr := [(h0, .inr (4, [.ref rw, .double pe]))]) hP hD [1, 2] [0] rfl rfl (by decide) (by decide) hk1 hF ht hB
        try dsimp only at hw
        obtain ⟨ln_2, wd_2, f_2, rfl, e_3, b_2⟩ := hw
        have hP : va_P D vwCl [(h0, .inr (4, [.ref rw, .double pe])), (rw, .inr (1, [.ref a, .int (nI ln_2), .int wd_2])), (a, .inl (kA 0, 400, .inl f_2))] H := hP
        have hD : va_D A [(h0, .inr (4, [.ref rw, .double pe])), (rw, .inr (1, [.ref a, .int (nI ln_2), .int wd_2])), (a, .inl (kA 0, 400, .inl f_2))] := hD
        refine lv_iinc (v := nI (i + 1)) (lv' := [(3, .int (nI (i + 1))), (2, .int (nI k9)), (0, .ref h0), (1, .int x)]) hx hb dX5_hear_30 hl (k := 0) rfl (nI_add i 1) (by decide) rfl (fun ls hl => ?_)
        refine lv_goto (tgt := 17) hx hb dX5_hear_33 (by decide) ?_
        exact ih_17 (i + 1) ln_2 wd_2 f_2 (by omega) (by first | assumption | omega | rfl) (by first | assumption | omega | rfl) (by first | assumption | omega | rfl) (by first | assumption | omega | rfl) _ _ _ (hP.sub [0, 1, 2] rfl) (hD.sub [0, 1, 2] (by decide) rfl) hS (lv_sub hl [0, 1, 2, 3] rfl)
  exact lp_17 (k9 + 1) 1 ln wd f (by omega) (by first | assumption | omega | rfl) (by first | assumption | omega | rfl) (by first | assumption | omega | rfl) (by first | assumption | omega | rfl) _ _ _ (hP.sub [0, 1, 2] rfl) (hD.sub [0, 1, 2] (by decide) rfl) hS (lv_sub hl [0, 1, 2, 3] rfl)
