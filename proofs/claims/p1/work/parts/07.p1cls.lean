def wq_X6_existing_e : List Cond := .code yX6_existing cX6_existing 3 (some (.object "FluxBench$Track")) :: (([.classLink RX6 208 "java/lang/IndexOutOfBoundsException", .initialized "java/lang/IndexOutOfBoundsException", .fieldLink RX6 11 "FluxBench" "tracks" "[LFluxBench$Track;"] : List Cond) ++ (u_ws RX6 TX6 7 ++ ((vx_atS RX6 212 "java/lang/IndexOutOfBoundsException" ["java/lang/RuntimeException", "java/lang/Exception"]).filter goodWord ++ ([] : List Cond))))
theorem gd_X6_existing_e : wq_X6_existing_e.all goodWord = true := by decide +kernel
theorem n_X6_existing_e_X6 : ∀ w ∈ u_ws RX6 TX6 7, w ∈ wq_X6_existing_e := fun w h => List.mem_cons_of_mem _ (List.mem_append_right _ (List.mem_append_left _ h))
set_option maxHeartbeats 4000000 in
set_option maxRecDepth 100000 in
theorem c_X6_existing_e (l : Launch) (D : va_G) (kA : Nat → ClassId) (z : Nat) (hfl : l.stackTraces = false) (h0 a : Nat) (x : Int32)  : xR l D (tyL kA) z yX6_existing wq_X6_existing_e ({ frames := 6, cells := 1, slots := 6, locals := 90 }) [.ref h0, .int x] [(h0, .inr (7, [.ref a, .int (nI 0), .int (nI 8), .int (nI 0), .int (nI 0), .int (nI 0), .int (nI 0)])), (a, .inl (kA 2, 4, .inr (.inr (.inr (.inr (fun _ => none))))))] (fun _ _ => False) (fun E w => (E = "java/lang/IndexOutOfBoundsException") ∧ w = [(h0, .inr (7, [.ref a, .int (nI 0), .int (nI 8), .int (nI 0), .int (nI 0), .int (nI 0), .int (nI 0)])), (a, .inl (kA 2, 4, .inr (.inr (.inr (.inr (fun _ => none))))))]) := by
  refine ofxR (cc := cX6_existing) (maxL := 3) RX6 rfl (by decide +kernel) rfl (Nat.le_of_ble_eq_true rfl) ?_
  intro p e s m args below meth c A ls hxt hE
  obtain ⟨hx, hb, hr, hml, hts, hown, hlocks, hA, hS, hP, hK, hD, hG, hl⟩ := hE
  have hl : lv_has ls 3 [(0, .ref h0), (1, .int x)] := hl
  have hH : s.heap = s.heap := rfl
  refine lv_iload_n hx hb dX6_existing_0 rfl (lv_at hl 1 rfl) ?_
  refine lv_if_lt (tgt := 13) hx hb dX6_existing_1 (by decide) (fun c1 => ?_) (fun c1 => ?_)
  ·
    obtain ⟨sa9, hsa9⟩ := hG.2.2.1 _ (List.mem_of_getElem? (i := 10) rfl)
    exact vx_throwSW (own := RX6) (cls := "java/lang/IndexOutOfBoundsException") (text := "there is no such track") (names := ["java/lang/RuntimeException", "java/lang/Exception"]) hx hb hfl hown (by decide +kernel) (by decide +kernel) (wAt hts 1 (w := .classLink RX6 208 "java/lang/IndexOutOfBoundsException") rfl) (wAt hts 2 (w := .initialized "java/lang/IndexOutOfBoundsException") rfl) hsa9 (exat_IndexOutOfBoundsException (fun w h => hts w (List.mem_cons_of_mem _ (List.mem_append_right _ (List.mem_append_right _ (List.mem_append_left _ h))))) hG.2.2.2.1) exot_IndexOutOfBoundsException hG.2.1.1 hG.2.1.2 hS (by rw [hml]; exact hl.1) dX6_existing_13 dX6_existing_16 dX6_existing_17 dX6_existing_20 dX6_existing_23 (fun x9 h9 => (hxt x9 h9).elim) (by decide) (Nat.le_of_ble_eq_true rfl) (Nat.le_of_ble_eq_true rfl) (Nat.le_of_ble_eq_true rfl) hlocks (xEnd hK hP hD hS ⟨rfl, rfl⟩) hS.2.2 (Nat.le_of_ble_eq_true rfl) (Nat.le_of_ble_eq_true rfl)
  ·
    obtain ⟨n9, h9, rfl⟩ := rq_neg c1
    refine lv_iload_n hx hb dX6_existing_4 rfl (lv_at hl 1 rfl) ?_
    refine lv_aload_n hx hb dX6_existing_5 rfl (lv_at hl 0 rfl) ?_
    refine va_get (D := D) (ci := 7) (v := .ref a) (C := RX6) (T := TX6) (N := 7) hx hb hts n_X6_existing_e_X6 hown hK hP 0 rfl rfl 0 (by decide) (wAt hts 3 (w := .fieldLink RX6 11 "FluxBench" "tracks" "[LFluxBench$Track;") rfl) (fun _ h9 => h9) rfl dX6_existing_6 ?_
    refine va_alen (v := nI 4) hx hb hK hP 1 2 rfl rfl rfl dX6_existing_9 ?_
    refine lv_icmp_lt (tgt := 24) hx hb dX6_existing_10 (by decide) (fun c10 => ?_) (fun c10 => ?_)
    ·
      rw [qlt (a := n9) (b := 4) (by omega) (by omega)] at c10
      refine lv_aload_n hx hb dX6_existing_24 rfl (lv_at hl 0 rfl) ?_
      refine va_get (D := D) (ci := 7) (v := .ref a) (C := RX6) (T := TX6) (N := 7) hx hb hts n_X6_existing_e_X6 hown hK hP 0 rfl rfl 0 (by decide) (wAt hts 3 (w := .fieldLink RX6 11 "FluxBench" "tracks" "[LFluxBench$Track;") rfl) (fun _ h9 => h9) rfl dX6_existing_25 ?_
      refine lv_iload_n hx hb dX6_existing_28 rfl (lv_at hl 1 rfl) ?_
      refine va_aldq hx hb hK hP 1 2 rfl rfl (vp_in_nI (n := n9) (by omega) (by decide)) dX6_existing_29 ?_
      try rw [nI_clamp (n := n9) (by omega)]
      refine W.eq (g2 := F0 m 30 ls [.null]) rfl ?_
      refine lv_astore_nN (lv' := [(2, .null), (0, .ref h0), (1, .int (nI n9))]) hx hb dX6_existing_30 rfl hl (by decide) rfl (fun ls hl => ?_)
      refine lv_aload_nN hx hb dX6_existing_31 rfl (lv_at hl 0 rfl) ?_
      refine lv_ifnonnullN hx hb dX6_existing_32 ?_
      obtain ⟨sa9, hsa9⟩ := hG.2.2.1 _ (List.mem_of_getElem? (i := 11) rfl)
      exact vx_throwSW (own := RX6) (cls := "java/lang/IndexOutOfBoundsException") (text := "there is no such track yet") (names := ["java/lang/RuntimeException", "java/lang/Exception"]) hx hb hfl hown (by decide +kernel) (by decide +kernel) (wAt hts 1 (w := .classLink RX6 208 "java/lang/IndexOutOfBoundsException") rfl) (wAt hts 2 (w := .initialized "java/lang/IndexOutOfBoundsException") rfl) hsa9 (exat_IndexOutOfBoundsException (fun w h => hts w (List.mem_cons_of_mem _ (List.mem_append_right _ (List.mem_append_right _ (List.mem_append_left _ h))))) hG.2.2.2.1) exot_IndexOutOfBoundsException hG.2.1.1 hG.2.1.2 hS (by rw [hml]; exact hl.1) dX6_existing_35 dX6_existing_38 dX6_existing_39 dX6_existing_42 dX6_existing_45 (fun x9 h9 => (hxt x9 h9).elim) (by decide) (Nat.le_of_ble_eq_true rfl) (Nat.le_of_ble_eq_true rfl) (Nat.le_of_ble_eq_true rfl) hlocks (xEnd hK hP hD hS ⟨rfl, rfl⟩) hS.2.2 (Nat.le_of_ble_eq_true rfl) (Nat.le_of_ble_eq_true rfl)
    ·
      rw [qlt (a := n9) (b := 4) (by omega) (by omega)] at c10
      obtain ⟨sa9, hsa9⟩ := hG.2.2.1 _ (List.mem_of_getElem? (i := 10) rfl)
      exact vx_throwSW (own := RX6) (cls := "java/lang/IndexOutOfBoundsException") (text := "there is no such track") (names := ["java/lang/RuntimeException", "java/lang/Exception"]) hx hb hfl hown (by decide +kernel) (by decide +kernel) (wAt hts 1 (w := .classLink RX6 208 "java/lang/IndexOutOfBoundsException") rfl) (wAt hts 2 (w := .initialized "java/lang/IndexOutOfBoundsException") rfl) hsa9 (exat_IndexOutOfBoundsException (fun w h => hts w (List.mem_cons_of_mem _ (List.mem_append_right _ (List.mem_append_right _ (List.mem_append_left _ h))))) hG.2.2.2.1) exot_IndexOutOfBoundsException hG.2.1.1 hG.2.1.2 hS (by rw [hml]; exact hl.1) dX6_existing_13 dX6_existing_16 dX6_existing_17 dX6_existing_20 dX6_existing_23 (fun x9 h9 => (hxt x9 h9).elim) (by decide) (Nat.le_of_ble_eq_true rfl) (Nat.le_of_ble_eq_true rfl) (Nat.le_of_ble_eq_true rfl) hlocks (xEnd hK hP hD hS ⟨rfl, rfl⟩) hS.2.2 (Nat.le_of_ble_eq_true rfl) (Nat.le_of_ble_eq_true rfl)

def wq_X6_existingTurn_e : List Cond := .code yX6_existingTurn cX6_existingTurn 4 (some (.object "FluxBench$Turn")) :: (([.methodLink RX6 52 yX6_existing, .instanceMethod yX6_existing, .selects RX6 yX6_existing yX6_existing, .initialized RX6] : List Cond) ++ (wq_X6_existing_e ++ ([] : List Cond)))
theorem gd_X6_existingTurn_e : wq_X6_existingTurn_e.all goodWord = true := by decide +kernel
theorem h_X6_existingTurn_e_0 : GoodIn wq_X6_existingTurn_e (wsV RX6 52 RX6 yX6_existing wq_X6_existing_e) := goodIn_app (goodIn_r _ [1, 2, 3, 4] (by decide +kernel) (by decide +kernel)) (goodIn_sub (fun w h => List.mem_cons_of_mem _ (List.mem_append_right _ (List.mem_append_left _ h))) gd_X6_existing_e)
set_option maxHeartbeats 4000000 in
set_option maxRecDepth 100000 in
theorem c_X6_existingTurn_e (l : Launch) (D : va_G) (kA : Nat → ClassId) (z : Nat) (hfl : l.stackTraces = false) (h0 a : Nat) (x y : Int32)  : xR l D (tyL kA) z yX6_existingTurn wq_X6_existingTurn_e ({ frames := 7, cells := 1, slots := 6, locals := 120 }) [.ref h0, .int x, .int y] [(h0, .inr (7, [.ref a, .int (nI 0), .int (nI 8), .int (nI 0), .int (nI 0), .int (nI 0), .int (nI 0)])), (a, .inl (kA 2, 4, .inr (.inr (.inr (.inr (fun _ => none))))))] (fun _ _ => False) (fun E w => (E = "java/lang/IndexOutOfBoundsException") ∧ w = [(h0, .inr (7, [.ref a, .int (nI 0), .int (nI 8), .int (nI 0), .int (nI 0), .int (nI 0), .int (nI 0)])), (a, .inl (kA 2, 4, .inr (.inr (.inr (.inr (fun _ => none))))))]) := by
  refine ofxR (cc := cX6_existingTurn) (maxL := 4) RX6 rfl (by decide +kernel) rfl (Nat.le_of_ble_eq_true rfl) ?_
  intro p e s m args below meth c A ls hxt hE
  obtain ⟨hx, hb, hr, hml, hts, hown, hlocks, hA, hS, hP, hK, hD, hG, hl⟩ := hE
  have hl : lv_has ls 4 [(0, .ref h0), (1, .int x), (2, .int y)] := hl
  have hH : s.heap = s.heap := rfl
  refine lv_aload_n hx hb dX6_existingTurn_0 rfl (lv_at hl 0 rfl) ?_
  refine lv_iload_n hx hb dX6_existingTurn_1 rfl (lv_at hl 1 rfl) ?_
  have hF := va_free (wc := [(h0, .inr (7, [.ref a, .int (nI 0), .int (nI 8), .int (nI 0), .int (nI 0), .int (nI 0), .int (nI 0)])), (a, .inl (kA 2, 4, .inr (.inr (.inr (.inr (fun _ => none))))))]) hD hS hA [0, 1] rfl
  refine vx_callr (vx_runV (As := [.int x]) (rest := []) ⟨hx, hb, hml, hown, hts⟩ (c_X6_existing_e l D kA z hfl h0 a x  _) (cwV 1 hts h_X6_existingTurn_e_0 rfl rfl rfl (by decide +kernel) ⟨Nat.le_of_ble_eq_true rfl, Nat.le_of_ble_eq_true rfl⟩) (fPv hK hP hD hS hG hF [0, 1] (by decide) rfl 0 7 rfl rfl rfl) rfl rfl hl.1 rfl (lv_room (Nat.le_of_ble_eq_true rfl)) dX6_existingTurn_2 ⟨Nat.le_of_ble_eq_true rfl, Nat.le_of_ble_eq_true rfl⟩) hS (fun q _ h => hF q h) hF (fun q _ h => hF q h) (fun E ce q9 u9 t H locs ht hvm hw hB hz1 hk1 hS hc9 hv9 hcl9 => ?_) (fun u1 ra9 t H locs ht hvm hw hB hz1 hk1 hS => ?_)
  ·
    obtain ⟨E9, w1⟩ := u9
    obtain ⟨e9, hB⟩ := hB
    have e9 : E9 = E := e9
    subst e9
    obtain ⟨hP, hD⟩ := fJ (wr := []) hP hD [0, 1] [] rfl rfl (by decide) (by decide) hk1 hF ht hB
    obtain ⟨hE9, rfl⟩ := hw
    try dsimp only at hE9
    have hP : va_P D vwCl [(h0, .inr (7, [.ref a, .int (nI 0), .int (nI 8), .int (nI 0), .int (nI 0), .int (nI 0), .int (nI 0)])), (a, .inl (kA 2, 4, .inr (.inr (.inr (.inr (fun _ => none))))))] H := hP
    have hD : va_D A [(h0, .inr (7, [.ref a, .int (nI 0), .int (nI 8), .int (nI 0), .int (nI 0), .int (nI 0), .int (nI 0)])), (a, .inl (kA 2, 4, .inr (.inr (.inr (.inr (fun _ => none))))))] := hD
    exact vx_out (fun x9 h9 => (hxt x9 h9).elim) hlocks hc9 hv9 hcl9 (xEnd0 hK hP hD hS ⟨hE9, rfl⟩) hS.2.2 (Nat.le_of_ble_eq_true rfl) (Nat.le_of_ble_eq_true rfl)
  · exact hw.elim

def wq_X6_write_e : List Cond := .code yX6_write cX6_write 4 (some .int) :: (([.methodLink RX6 52 yX6_existing, .instanceMethod yX6_existing, .selects RX6 yX6_existing yX6_existing, .initialized RX6] : List Cond) ++ (wq_X6_existing_e ++ ([] : List Cond)))
theorem gd_X6_write_e : wq_X6_write_e.all goodWord = true := by decide +kernel
theorem h_X6_write_e_0 : GoodIn wq_X6_write_e (wsV RX6 52 RX6 yX6_existing wq_X6_existing_e) := goodIn_app (goodIn_r _ [1, 2, 3, 4] (by decide +kernel) (by decide +kernel)) (goodIn_sub (fun w h => List.mem_cons_of_mem _ (List.mem_append_right _ (List.mem_append_left _ h))) gd_X6_existing_e)
set_option maxHeartbeats 4000000 in
set_option maxRecDepth 100000 in
theorem c_X6_write_e (l : Launch) (D : va_G) (kA : Nat → ClassId) (z : Nat) (hfl : l.stackTraces = false) (h0 a : Nat) (x0 x1 : Int32)  : xI l D (tyL kA) z yX6_write wq_X6_write_e ({ frames := 7, cells := 1, slots := 6, locals := 120 }) [.ref h0, .int x0, .int x1] [(h0, .inr (7, [.ref a, .int (nI 0), .int (nI 8), .int (nI 0), .int (nI 0), .int (nI 0), .int (nI 0)])), (a, .inl (kA 2, 4, .inr (.inr (.inr (.inr (fun _ => none))))))] (fun _ _ => False) (fun E w => (E = "java/lang/IndexOutOfBoundsException") ∧ w = [(h0, .inr (7, [.ref a, .int (nI 0), .int (nI 8), .int (nI 0), .int (nI 0), .int (nI 0), .int (nI 0)])), (a, .inl (kA 2, 4, .inr (.inr (.inr (.inr (fun _ => none))))))]) := by
  refine ofxI (cc := cX6_write) (maxL := 4) RX6 rfl (by decide +kernel) rfl (Nat.le_of_ble_eq_true rfl) ?_
  intro p e s m args below meth c A ls hxt hE
  obtain ⟨hx, hb, hr, hml, hts, hown, hlocks, hA, hS, hP, hK, hD, hG, hl⟩ := hE
  have hl : lv_has ls 4 [(0, .ref h0), (1, .int x0), (2, .int x1)] := hl
  have hH : s.heap = s.heap := rfl
  refine lv_aload_n hx hb dX6_write_0 rfl (lv_at hl 0 rfl) ?_
  refine lv_iload_n hx hb dX6_write_1 rfl (lv_at hl 1 rfl) ?_
  have hF := va_free (wc := [(h0, .inr (7, [.ref a, .int (nI 0), .int (nI 8), .int (nI 0), .int (nI 0), .int (nI 0), .int (nI 0)])), (a, .inl (kA 2, 4, .inr (.inr (.inr (.inr (fun _ => none))))))]) hD hS hA [0, 1] rfl
  refine vx_callr (vx_runV (As := [.int x0]) (rest := []) ⟨hx, hb, hml, hown, hts⟩ (c_X6_existing_e l D kA z hfl h0 a x0  _) (cwV 1 hts h_X6_write_e_0 rfl rfl rfl (by decide +kernel) ⟨Nat.le_of_ble_eq_true rfl, Nat.le_of_ble_eq_true rfl⟩) (fPv hK hP hD hS hG hF [0, 1] (by decide) rfl 0 7 rfl rfl rfl) rfl rfl hl.1 rfl (lv_room (Nat.le_of_ble_eq_true rfl)) dX6_write_2 ⟨Nat.le_of_ble_eq_true rfl, Nat.le_of_ble_eq_true rfl⟩) hS (fun q _ h => hF q h) hF (fun q _ h => hF q h) (fun E ce q9 u9 t H locs ht hvm hw hB hz1 hk1 hS hc9 hv9 hcl9 => ?_) (fun u1 ra9 t H locs ht hvm hw hB hz1 hk1 hS => ?_)
  ·
    obtain ⟨E9, w1⟩ := u9
    obtain ⟨e9, hB⟩ := hB
    have e9 : E9 = E := e9
    subst e9
    obtain ⟨hP, hD⟩ := fJ (wr := []) hP hD [0, 1] [] rfl rfl (by decide) (by decide) hk1 hF ht hB
    obtain ⟨hE9, rfl⟩ := hw
    try dsimp only at hE9
    have hP : va_P D vwCl [(h0, .inr (7, [.ref a, .int (nI 0), .int (nI 8), .int (nI 0), .int (nI 0), .int (nI 0), .int (nI 0)])), (a, .inl (kA 2, 4, .inr (.inr (.inr (.inr (fun _ => none))))))] H := hP
    have hD : va_D A [(h0, .inr (7, [.ref a, .int (nI 0), .int (nI 8), .int (nI 0), .int (nI 0), .int (nI 0), .int (nI 0)])), (a, .inl (kA 2, 4, .inr (.inr (.inr (.inr (fun _ => none))))))] := hD
    exact vx_out (fun x9 h9 => (hxt x9 h9).elim) hlocks hc9 hv9 hcl9 (xEnd0 hK hP hD hS ⟨hE9, rfl⟩) hS.2.2 (Nat.le_of_ble_eq_true rfl) (Nat.le_of_ble_eq_true rfl)
  · exact hw.elim

def wq_X6_mark_e : List Cond := .code yX6_mark cX6_mark 3 (some .int) :: (([.methodLink RX6 52 yX6_existing, .instanceMethod yX6_existing, .selects RX6 yX6_existing yX6_existing, .initialized RX6] : List Cond) ++ (wq_X6_existing_e ++ ([] : List Cond)))
theorem gd_X6_mark_e : wq_X6_mark_e.all goodWord = true := by decide +kernel
theorem h_X6_mark_e_0 : GoodIn wq_X6_mark_e (wsV RX6 52 RX6 yX6_existing wq_X6_existing_e) := goodIn_app (goodIn_r _ [1, 2, 3, 4] (by decide +kernel) (by decide +kernel)) (goodIn_sub (fun w h => List.mem_cons_of_mem _ (List.mem_append_right _ (List.mem_append_left _ h))) gd_X6_existing_e)
set_option maxHeartbeats 4000000 in
set_option maxRecDepth 100000 in
theorem c_X6_mark_e (l : Launch) (D : va_G) (kA : Nat → ClassId) (z : Nat) (hfl : l.stackTraces = false) (h0 a : Nat) (x0 : Int32)  : xI l D (tyL kA) z yX6_mark wq_X6_mark_e ({ frames := 7, cells := 1, slots := 6, locals := 120 }) [.ref h0, .int x0] [(h0, .inr (7, [.ref a, .int (nI 0), .int (nI 8), .int (nI 0), .int (nI 0), .int (nI 0), .int (nI 0)])), (a, .inl (kA 2, 4, .inr (.inr (.inr (.inr (fun _ => none))))))] (fun _ _ => False) (fun E w => (E = "java/lang/IndexOutOfBoundsException") ∧ w = [(h0, .inr (7, [.ref a, .int (nI 0), .int (nI 8), .int (nI 0), .int (nI 0), .int (nI 0), .int (nI 0)])), (a, .inl (kA 2, 4, .inr (.inr (.inr (.inr (fun _ => none))))))]) := by
  refine ofxI (cc := cX6_mark) (maxL := 3) RX6 rfl (by decide +kernel) rfl (Nat.le_of_ble_eq_true rfl) ?_
  intro p e s m args below meth c A ls hxt hE
  obtain ⟨hx, hb, hr, hml, hts, hown, hlocks, hA, hS, hP, hK, hD, hG, hl⟩ := hE
  have hl : lv_has ls 3 [(0, .ref h0), (1, .int x0)] := hl
  have hH : s.heap = s.heap := rfl
  refine lv_aload_n hx hb dX6_mark_0 rfl (lv_at hl 0 rfl) ?_
  refine lv_iload_n hx hb dX6_mark_1 rfl (lv_at hl 1 rfl) ?_
  have hF := va_free (wc := [(h0, .inr (7, [.ref a, .int (nI 0), .int (nI 8), .int (nI 0), .int (nI 0), .int (nI 0), .int (nI 0)])), (a, .inl (kA 2, 4, .inr (.inr (.inr (.inr (fun _ => none))))))]) hD hS hA [0, 1] rfl
  refine vx_callr (vx_runV (As := [.int x0]) (rest := []) ⟨hx, hb, hml, hown, hts⟩ (c_X6_existing_e l D kA z hfl h0 a x0  _) (cwV 1 hts h_X6_mark_e_0 rfl rfl rfl (by decide +kernel) ⟨Nat.le_of_ble_eq_true rfl, Nat.le_of_ble_eq_true rfl⟩) (fPv hK hP hD hS hG hF [0, 1] (by decide) rfl 0 7 rfl rfl rfl) rfl rfl hl.1 rfl (lv_room (Nat.le_of_ble_eq_true rfl)) dX6_mark_2 ⟨Nat.le_of_ble_eq_true rfl, Nat.le_of_ble_eq_true rfl⟩) hS (fun q _ h => hF q h) hF (fun q _ h => hF q h) (fun E ce q9 u9 t H locs ht hvm hw hB hz1 hk1 hS hc9 hv9 hcl9 => ?_) (fun u1 ra9 t H locs ht hvm hw hB hz1 hk1 hS => ?_)
  ·
    obtain ⟨E9, w1⟩ := u9
    obtain ⟨e9, hB⟩ := hB
    have e9 : E9 = E := e9
    subst e9
    obtain ⟨hP, hD⟩ := fJ (wr := []) hP hD [0, 1] [] rfl rfl (by decide) (by decide) hk1 hF ht hB
    obtain ⟨hE9, rfl⟩ := hw
    try dsimp only at hE9
    have hP : va_P D vwCl [(h0, .inr (7, [.ref a, .int (nI 0), .int (nI 8), .int (nI 0), .int (nI 0), .int (nI 0), .int (nI 0)])), (a, .inl (kA 2, 4, .inr (.inr (.inr (.inr (fun _ => none))))))] H := hP
    have hD : va_D A [(h0, .inr (7, [.ref a, .int (nI 0), .int (nI 8), .int (nI 0), .int (nI 0), .int (nI 0), .int (nI 0)])), (a, .inl (kA 2, 4, .inr (.inr (.inr (.inr (fun _ => none))))))] := hD
    exact vx_out (fun x9 h9 => (hxt x9 h9).elim) hlocks hc9 hv9 hcl9 (xEnd0 hK hP hD hS ⟨hE9, rfl⟩) hS.2.2 (Nat.le_of_ble_eq_true rfl) (Nat.le_of_ble_eq_true rfl)
  · exact hw.elim

def wq_X6_sector_e : List Cond := .code yX6_sector cX6_sector 7 (some .int) :: (([.methodLink RX6 52 yX6_existing, .instanceMethod yX6_existing, .selects RX6 yX6_existing yX6_existing, .initialized RX6] : List Cond) ++ (wq_X6_existing_e ++ ([] : List Cond)))
theorem gd_X6_sector_e : wq_X6_sector_e.all goodWord = true := by decide +kernel
theorem h_X6_sector_e_0 : GoodIn wq_X6_sector_e (wsV RX6 52 RX6 yX6_existing wq_X6_existing_e) := goodIn_app (goodIn_r _ [1, 2, 3, 4] (by decide +kernel) (by decide +kernel)) (goodIn_sub (fun w h => List.mem_cons_of_mem _ (List.mem_append_right _ (List.mem_append_left _ h))) gd_X6_existing_e)
set_option maxHeartbeats 4000000 in
set_option maxRecDepth 100000 in
theorem c_X6_sector_e (l : Launch) (D : va_G) (kA : Nat → ClassId) (z : Nat) (hfl : l.stackTraces = false) (h0 a : Nat) (x0 x1 x2 x3 x4 : Int32)  : xI l D (tyL kA) z yX6_sector wq_X6_sector_e ({ frames := 7, cells := 1, slots := 6, locals := 120 }) [.ref h0, .int x0, .int x1, .int x2, .int x3, .int x4] [(h0, .inr (7, [.ref a, .int (nI 0), .int (nI 8), .int (nI 0), .int (nI 0), .int (nI 0), .int (nI 0)])), (a, .inl (kA 2, 4, .inr (.inr (.inr (.inr (fun _ => none))))))] (fun _ _ => False) (fun E w => (E = "java/lang/IndexOutOfBoundsException") ∧ w = [(h0, .inr (7, [.ref a, .int (nI 0), .int (nI 8), .int (nI 0), .int (nI 0), .int (nI 0), .int (nI 0)])), (a, .inl (kA 2, 4, .inr (.inr (.inr (.inr (fun _ => none))))))]) := by
  refine ofxI (cc := cX6_sector) (maxL := 7) RX6 rfl (by decide +kernel) rfl (Nat.le_of_ble_eq_true rfl) ?_
  intro p e s m args below meth c A ls hxt hE
  obtain ⟨hx, hb, hr, hml, hts, hown, hlocks, hA, hS, hP, hK, hD, hG, hl⟩ := hE
  have hl : lv_has ls 7 [(0, .ref h0), (1, .int x0), (2, .int x1), (3, .int x2), (4, .int x3), (5, .int x4)] := hl
  have hH : s.heap = s.heap := rfl
  refine lv_aload_n hx hb dX6_sector_0 rfl (lv_at hl 0 rfl) ?_
  refine lv_iload_n hx hb dX6_sector_1 rfl (lv_at hl 1 rfl) ?_
  have hF := va_free (wc := [(h0, .inr (7, [.ref a, .int (nI 0), .int (nI 8), .int (nI 0), .int (nI 0), .int (nI 0), .int (nI 0)])), (a, .inl (kA 2, 4, .inr (.inr (.inr (.inr (fun _ => none))))))]) hD hS hA [0, 1] rfl
  refine vx_callr (vx_runV (As := [.int x0]) (rest := []) ⟨hx, hb, hml, hown, hts⟩ (c_X6_existing_e l D kA z hfl h0 a x0  _) (cwV 1 hts h_X6_sector_e_0 rfl rfl rfl (by decide +kernel) ⟨Nat.le_of_ble_eq_true rfl, Nat.le_of_ble_eq_true rfl⟩) (fPv hK hP hD hS hG hF [0, 1] (by decide) rfl 0 7 rfl rfl rfl) rfl rfl hl.1 rfl (lv_room (Nat.le_of_ble_eq_true rfl)) dX6_sector_2 ⟨Nat.le_of_ble_eq_true rfl, Nat.le_of_ble_eq_true rfl⟩) hS (fun q _ h => hF q h) hF (fun q _ h => hF q h) (fun E ce q9 u9 t H locs ht hvm hw hB hz1 hk1 hS hc9 hv9 hcl9 => ?_) (fun u1 ra9 t H locs ht hvm hw hB hz1 hk1 hS => ?_)
  ·
    obtain ⟨E9, w1⟩ := u9
    obtain ⟨e9, hB⟩ := hB
    have e9 : E9 = E := e9
    subst e9
    obtain ⟨hP, hD⟩ := fJ (wr := []) hP hD [0, 1] [] rfl rfl (by decide) (by decide) hk1 hF ht hB
    obtain ⟨hE9, rfl⟩ := hw
    try dsimp only at hE9
    have hP : va_P D vwCl [(h0, .inr (7, [.ref a, .int (nI 0), .int (nI 8), .int (nI 0), .int (nI 0), .int (nI 0), .int (nI 0)])), (a, .inl (kA 2, 4, .inr (.inr (.inr (.inr (fun _ => none))))))] H := hP
    have hD : va_D A [(h0, .inr (7, [.ref a, .int (nI 0), .int (nI 8), .int (nI 0), .int (nI 0), .int (nI 0), .int (nI 0)])), (a, .inl (kA 2, 4, .inr (.inr (.inr (.inr (fun _ => none))))))] := hD
    exact vx_out (fun x9 h9 => (hxt x9 h9).elim) hlocks hc9 hv9 hcl9 (xEnd0 hK hP hD hS ⟨hE9, rfl⟩) hS.2.2 (Nat.le_of_ble_eq_true rfl) (Nat.le_of_ble_eq_true rfl)
  · exact hw.elim

def wq_X6_weak_e : List Cond := .code yX6_weak cX6_weak 6 (some .boolean) :: (([.methodLink RX6 52 yX6_existing, .instanceMethod yX6_existing, .selects RX6 yX6_existing yX6_existing, .initialized RX6] : List Cond) ++ (wq_X6_existing_e ++ ([] : List Cond)))
theorem gd_X6_weak_e : wq_X6_weak_e.all goodWord = true := by decide +kernel
theorem h_X6_weak_e_0 : GoodIn wq_X6_weak_e (wsV RX6 52 RX6 yX6_existing wq_X6_existing_e) := goodIn_app (goodIn_r _ [1, 2, 3, 4] (by decide +kernel) (by decide +kernel)) (goodIn_sub (fun w h => List.mem_cons_of_mem _ (List.mem_append_right _ (List.mem_append_left _ h))) gd_X6_existing_e)
set_option maxHeartbeats 4000000 in
set_option maxRecDepth 100000 in
theorem c_X6_weak_e (l : Launch) (D : va_G) (kA : Nat → ClassId) (z : Nat) (hfl : l.stackTraces = false) (h0 a : Nat) (x0 x1 x2 : Int32)  : xI l D (tyL kA) z yX6_weak wq_X6_weak_e ({ frames := 7, cells := 1, slots := 6, locals := 120 }) [.ref h0, .int x0, .int x1, .int x2] [(h0, .inr (7, [.ref a, .int (nI 0), .int (nI 8), .int (nI 0), .int (nI 0), .int (nI 0), .int (nI 0)])), (a, .inl (kA 2, 4, .inr (.inr (.inr (.inr (fun _ => none))))))] (fun _ _ => False) (fun E w => (E = "java/lang/IndexOutOfBoundsException") ∧ w = [(h0, .inr (7, [.ref a, .int (nI 0), .int (nI 8), .int (nI 0), .int (nI 0), .int (nI 0), .int (nI 0)])), (a, .inl (kA 2, 4, .inr (.inr (.inr (.inr (fun _ => none))))))]) := by
  refine ofxI (cc := cX6_weak) (maxL := 6) RX6 rfl (by decide +kernel) rfl (Nat.le_of_ble_eq_true rfl) ?_
  intro p e s m args below meth c A ls hxt hE
  obtain ⟨hx, hb, hr, hml, hts, hown, hlocks, hA, hS, hP, hK, hD, hG, hl⟩ := hE
  have hl : lv_has ls 6 [(0, .ref h0), (1, .int x0), (2, .int x1), (3, .int x2)] := hl
  have hH : s.heap = s.heap := rfl
  refine lv_aload_n hx hb dX6_weak_0 rfl (lv_at hl 0 rfl) ?_
  refine lv_iload_n hx hb dX6_weak_1 rfl (lv_at hl 1 rfl) ?_
  have hF := va_free (wc := [(h0, .inr (7, [.ref a, .int (nI 0), .int (nI 8), .int (nI 0), .int (nI 0), .int (nI 0), .int (nI 0)])), (a, .inl (kA 2, 4, .inr (.inr (.inr (.inr (fun _ => none))))))]) hD hS hA [0, 1] rfl
  refine vx_callr (vx_runV (As := [.int x0]) (rest := []) ⟨hx, hb, hml, hown, hts⟩ (c_X6_existing_e l D kA z hfl h0 a x0  _) (cwV 1 hts h_X6_weak_e_0 rfl rfl rfl (by decide +kernel) ⟨Nat.le_of_ble_eq_true rfl, Nat.le_of_ble_eq_true rfl⟩) (fPv hK hP hD hS hG hF [0, 1] (by decide) rfl 0 7 rfl rfl rfl) rfl rfl hl.1 rfl (lv_room (Nat.le_of_ble_eq_true rfl)) dX6_weak_2 ⟨Nat.le_of_ble_eq_true rfl, Nat.le_of_ble_eq_true rfl⟩) hS (fun q _ h => hF q h) hF (fun q _ h => hF q h) (fun E ce q9 u9 t H locs ht hvm hw hB hz1 hk1 hS hc9 hv9 hcl9 => ?_) (fun u1 ra9 t H locs ht hvm hw hB hz1 hk1 hS => ?_)
  ·
    obtain ⟨E9, w1⟩ := u9
    obtain ⟨e9, hB⟩ := hB
    have e9 : E9 = E := e9
    subst e9
    obtain ⟨hP, hD⟩ := fJ (wr := []) hP hD [0, 1] [] rfl rfl (by decide) (by decide) hk1 hF ht hB
    obtain ⟨hE9, rfl⟩ := hw
    try dsimp only at hE9
    have hP : va_P D vwCl [(h0, .inr (7, [.ref a, .int (nI 0), .int (nI 8), .int (nI 0), .int (nI 0), .int (nI 0), .int (nI 0)])), (a, .inl (kA 2, 4, .inr (.inr (.inr (.inr (fun _ => none))))))] H := hP
    have hD : va_D A [(h0, .inr (7, [.ref a, .int (nI 0), .int (nI 8), .int (nI 0), .int (nI 0), .int (nI 0), .int (nI 0)])), (a, .inl (kA 2, 4, .inr (.inr (.inr (.inr (fun _ => none))))))] := hD
    exact vx_out (fun x9 h9 => (hxt x9 h9).elim) hlocks hc9 hv9 hcl9 (xEnd0 hK hP hD hS ⟨hE9, rfl⟩) hS.2.2 (Nat.le_of_ble_eq_true rfl) (Nat.le_of_ble_eq_true rfl)
  · exact hw.elim

def wq_X6_dirt_e : List Cond := .code yX6_dirt cX6_dirt 5 (some .int) :: (([.methodLink RX6 52 yX6_existing, .instanceMethod yX6_existing, .selects RX6 yX6_existing yX6_existing, .initialized RX6] : List Cond) ++ (wq_X6_existing_e ++ ([] : List Cond)))
theorem gd_X6_dirt_e : wq_X6_dirt_e.all goodWord = true := by decide +kernel
theorem h_X6_dirt_e_0 : GoodIn wq_X6_dirt_e (wsV RX6 52 RX6 yX6_existing wq_X6_existing_e) := goodIn_app (goodIn_r _ [1, 2, 3, 4] (by decide +kernel) (by decide +kernel)) (goodIn_sub (fun w h => List.mem_cons_of_mem _ (List.mem_append_right _ (List.mem_append_left _ h))) gd_X6_existing_e)
set_option maxHeartbeats 4000000 in
set_option maxRecDepth 100000 in
theorem c_X6_dirt_e (l : Launch) (D : va_G) (kA : Nat → ClassId) (z : Nat) (hfl : l.stackTraces = false) (h0 a : Nat) (x0 x1 x2 : Int32)  : xI l D (tyL kA) z yX6_dirt wq_X6_dirt_e ({ frames := 7, cells := 1, slots := 6, locals := 120 }) [.ref h0, .int x0, .int x1, .int x2] [(h0, .inr (7, [.ref a, .int (nI 0), .int (nI 8), .int (nI 0), .int (nI 0), .int (nI 0), .int (nI 0)])), (a, .inl (kA 2, 4, .inr (.inr (.inr (.inr (fun _ => none))))))] (fun _ _ => False) (fun E w => (E = "java/lang/IndexOutOfBoundsException") ∧ w = [(h0, .inr (7, [.ref a, .int (nI 0), .int (nI 8), .int (nI 0), .int (nI 0), .int (nI 0), .int (nI 0)])), (a, .inl (kA 2, 4, .inr (.inr (.inr (.inr (fun _ => none))))))]) := by
  refine ofxI (cc := cX6_dirt) (maxL := 5) RX6 rfl (by decide +kernel) rfl (Nat.le_of_ble_eq_true rfl) ?_
  intro p e s m args below meth c A ls hxt hE
  obtain ⟨hx, hb, hr, hml, hts, hown, hlocks, hA, hS, hP, hK, hD, hG, hl⟩ := hE
  have hl : lv_has ls 5 [(0, .ref h0), (1, .int x0), (2, .int x1), (3, .int x2)] := hl
  have hH : s.heap = s.heap := rfl
  refine lv_aload_n hx hb dX6_dirt_0 rfl (lv_at hl 0 rfl) ?_
  refine lv_iload_n hx hb dX6_dirt_1 rfl (lv_at hl 1 rfl) ?_
  have hF := va_free (wc := [(h0, .inr (7, [.ref a, .int (nI 0), .int (nI 8), .int (nI 0), .int (nI 0), .int (nI 0), .int (nI 0)])), (a, .inl (kA 2, 4, .inr (.inr (.inr (.inr (fun _ => none))))))]) hD hS hA [0, 1] rfl
  refine vx_callr (vx_runV (As := [.int x0]) (rest := []) ⟨hx, hb, hml, hown, hts⟩ (c_X6_existing_e l D kA z hfl h0 a x0  _) (cwV 1 hts h_X6_dirt_e_0 rfl rfl rfl (by decide +kernel) ⟨Nat.le_of_ble_eq_true rfl, Nat.le_of_ble_eq_true rfl⟩) (fPv hK hP hD hS hG hF [0, 1] (by decide) rfl 0 7 rfl rfl rfl) rfl rfl hl.1 rfl (lv_room (Nat.le_of_ble_eq_true rfl)) dX6_dirt_2 ⟨Nat.le_of_ble_eq_true rfl, Nat.le_of_ble_eq_true rfl⟩) hS (fun q _ h => hF q h) hF (fun q _ h => hF q h) (fun E ce q9 u9 t H locs ht hvm hw hB hz1 hk1 hS hc9 hv9 hcl9 => ?_) (fun u1 ra9 t H locs ht hvm hw hB hz1 hk1 hS => ?_)
  ·
    obtain ⟨E9, w1⟩ := u9
    obtain ⟨e9, hB⟩ := hB
    have e9 : E9 = E := e9
    subst e9
    obtain ⟨hP, hD⟩ := fJ (wr := []) hP hD [0, 1] [] rfl rfl (by decide) (by decide) hk1 hF ht hB
    obtain ⟨hE9, rfl⟩ := hw
    try dsimp only at hE9
    have hP : va_P D vwCl [(h0, .inr (7, [.ref a, .int (nI 0), .int (nI 8), .int (nI 0), .int (nI 0), .int (nI 0), .int (nI 0)])), (a, .inl (kA 2, 4, .inr (.inr (.inr (.inr (fun _ => none))))))] H := hP
    have hD : va_D A [(h0, .inr (7, [.ref a, .int (nI 0), .int (nI 8), .int (nI 0), .int (nI 0), .int (nI 0), .int (nI 0)])), (a, .inl (kA 2, 4, .inr (.inr (.inr (.inr (fun _ => none))))))] := hD
    exact vx_out (fun x9 h9 => (hxt x9 h9).elim) hlocks hc9 hv9 hcl9 (xEnd0 hK hP hD hS ⟨hE9, rfl⟩) hS.2.2 (Nat.le_of_ble_eq_true rfl) (Nat.le_of_ble_eq_true rfl)
  · exact hw.elim

def wq_X6_clean_e : List Cond := .code yX6_clean cX6_clean 3 (some .int) :: (([.methodLink RX6 52 yX6_existing, .instanceMethod yX6_existing, .selects RX6 yX6_existing yX6_existing, .initialized RX6] : List Cond) ++ (wq_X6_existing_e ++ ([] : List Cond)))
theorem gd_X6_clean_e : wq_X6_clean_e.all goodWord = true := by decide +kernel
theorem h_X6_clean_e_0 : GoodIn wq_X6_clean_e (wsV RX6 52 RX6 yX6_existing wq_X6_existing_e) := goodIn_app (goodIn_r _ [1, 2, 3, 4] (by decide +kernel) (by decide +kernel)) (goodIn_sub (fun w h => List.mem_cons_of_mem _ (List.mem_append_right _ (List.mem_append_left _ h))) gd_X6_existing_e)
set_option maxHeartbeats 4000000 in
set_option maxRecDepth 100000 in
theorem c_X6_clean_e (l : Launch) (D : va_G) (kA : Nat → ClassId) (z : Nat) (hfl : l.stackTraces = false) (h0 a : Nat) (x0 : Int32)  : xI l D (tyL kA) z yX6_clean wq_X6_clean_e ({ frames := 7, cells := 1, slots := 6, locals := 120 }) [.ref h0, .int x0] [(h0, .inr (7, [.ref a, .int (nI 0), .int (nI 8), .int (nI 0), .int (nI 0), .int (nI 0), .int (nI 0)])), (a, .inl (kA 2, 4, .inr (.inr (.inr (.inr (fun _ => none))))))] (fun _ _ => False) (fun E w => (E = "java/lang/IndexOutOfBoundsException") ∧ w = [(h0, .inr (7, [.ref a, .int (nI 0), .int (nI 8), .int (nI 0), .int (nI 0), .int (nI 0), .int (nI 0)])), (a, .inl (kA 2, 4, .inr (.inr (.inr (.inr (fun _ => none))))))]) := by
  refine ofxI (cc := cX6_clean) (maxL := 3) RX6 rfl (by decide +kernel) rfl (Nat.le_of_ble_eq_true rfl) ?_
  intro p e s m args below meth c A ls hxt hE
  obtain ⟨hx, hb, hr, hml, hts, hown, hlocks, hA, hS, hP, hK, hD, hG, hl⟩ := hE
  have hl : lv_has ls 3 [(0, .ref h0), (1, .int x0)] := hl
  have hH : s.heap = s.heap := rfl
  refine lv_aload_n hx hb dX6_clean_0 rfl (lv_at hl 0 rfl) ?_
  refine lv_iload_n hx hb dX6_clean_1 rfl (lv_at hl 1 rfl) ?_
  have hF := va_free (wc := [(h0, .inr (7, [.ref a, .int (nI 0), .int (nI 8), .int (nI 0), .int (nI 0), .int (nI 0), .int (nI 0)])), (a, .inl (kA 2, 4, .inr (.inr (.inr (.inr (fun _ => none))))))]) hD hS hA [0, 1] rfl
  refine vx_callr (vx_runV (As := [.int x0]) (rest := []) ⟨hx, hb, hml, hown, hts⟩ (c_X6_existing_e l D kA z hfl h0 a x0  _) (cwV 1 hts h_X6_clean_e_0 rfl rfl rfl (by decide +kernel) ⟨Nat.le_of_ble_eq_true rfl, Nat.le_of_ble_eq_true rfl⟩) (fPv hK hP hD hS hG hF [0, 1] (by decide) rfl 0 7 rfl rfl rfl) rfl rfl hl.1 rfl (lv_room (Nat.le_of_ble_eq_true rfl)) dX6_clean_2 ⟨Nat.le_of_ble_eq_true rfl, Nat.le_of_ble_eq_true rfl⟩) hS (fun q _ h => hF q h) hF (fun q _ h => hF q h) (fun E ce q9 u9 t H locs ht hvm hw hB hz1 hk1 hS hc9 hv9 hcl9 => ?_) (fun u1 ra9 t H locs ht hvm hw hB hz1 hk1 hS => ?_)
  ·
    obtain ⟨E9, w1⟩ := u9
    obtain ⟨e9, hB⟩ := hB
    have e9 : E9 = E := e9
    subst e9
    obtain ⟨hP, hD⟩ := fJ (wr := []) hP hD [0, 1] [] rfl rfl (by decide) (by decide) hk1 hF ht hB
    obtain ⟨hE9, rfl⟩ := hw
    try dsimp only at hE9
    have hP : va_P D vwCl [(h0, .inr (7, [.ref a, .int (nI 0), .int (nI 8), .int (nI 0), .int (nI 0), .int (nI 0), .int (nI 0)])), (a, .inl (kA 2, 4, .inr (.inr (.inr (.inr (fun _ => none))))))] H := hP
    have hD : va_D A [(h0, .inr (7, [.ref a, .int (nI 0), .int (nI 8), .int (nI 0), .int (nI 0), .int (nI 0), .int (nI 0)])), (a, .inl (kA 2, 4, .inr (.inr (.inr (.inr (fun _ => none))))))] := hD
    exact vx_out (fun x9 h9 => (hxt x9 h9).elim) hlocks hc9 hv9 hcl9 (xEnd0 hK hP hD hS ⟨hE9, rfl⟩) hS.2.2 (Nat.le_of_ble_eq_true rfl) (Nat.le_of_ble_eq_true rfl)
  · exact hw.elim

def wq_X6_read_e : List Cond := .code yX6_read cX6_read 3 (some .int) :: (([.methodLink RX6 52 yX6_existing, .instanceMethod yX6_existing, .selects RX6 yX6_existing yX6_existing, .initialized RX6] : List Cond) ++ (wq_X6_existing_e ++ ([] : List Cond)))
theorem gd_X6_read_e : wq_X6_read_e.all goodWord = true := by decide +kernel
theorem h_X6_read_e_0 : GoodIn wq_X6_read_e (wsV RX6 52 RX6 yX6_existing wq_X6_existing_e) := goodIn_app (goodIn_r _ [1, 2, 3, 4] (by decide +kernel) (by decide +kernel)) (goodIn_sub (fun w h => List.mem_cons_of_mem _ (List.mem_append_right _ (List.mem_append_left _ h))) gd_X6_existing_e)
set_option maxHeartbeats 4000000 in
set_option maxRecDepth 100000 in
theorem c_X6_read_e (l : Launch) (D : va_G) (kA : Nat → ClassId) (z : Nat) (hfl : l.stackTraces = false) (h0 a : Nat) (x0 : Int32)  : xI l D (tyL kA) z yX6_read wq_X6_read_e ({ frames := 7, cells := 1, slots := 6, locals := 120 }) [.ref h0, .int x0] [(h0, .inr (7, [.ref a, .int (nI 0), .int (nI 8), .int (nI 0), .int (nI 0), .int (nI 0), .int (nI 0)])), (a, .inl (kA 2, 4, .inr (.inr (.inr (.inr (fun _ => none))))))] (fun _ _ => False) (fun E w => (E = "java/lang/IndexOutOfBoundsException") ∧ w = [(h0, .inr (7, [.ref a, .int (nI 0), .int (nI 8), .int (nI 0), .int (nI 0), .int (nI 0), .int (nI 0)])), (a, .inl (kA 2, 4, .inr (.inr (.inr (.inr (fun _ => none))))))]) := by
  refine ofxI (cc := cX6_read) (maxL := 3) RX6 rfl (by decide +kernel) rfl (Nat.le_of_ble_eq_true rfl) ?_
  intro p e s m args below meth c A ls hxt hE
  obtain ⟨hx, hb, hr, hml, hts, hown, hlocks, hA, hS, hP, hK, hD, hG, hl⟩ := hE
  have hl : lv_has ls 3 [(0, .ref h0), (1, .int x0)] := hl
  have hH : s.heap = s.heap := rfl
  refine lv_aload_n hx hb dX6_read_0 rfl (lv_at hl 0 rfl) ?_
  refine lv_iload_n hx hb dX6_read_1 rfl (lv_at hl 1 rfl) ?_
  have hF := va_free (wc := [(h0, .inr (7, [.ref a, .int (nI 0), .int (nI 8), .int (nI 0), .int (nI 0), .int (nI 0), .int (nI 0)])), (a, .inl (kA 2, 4, .inr (.inr (.inr (.inr (fun _ => none))))))]) hD hS hA [0, 1] rfl
  refine vx_callr (vx_runV (As := [.int x0]) (rest := []) ⟨hx, hb, hml, hown, hts⟩ (c_X6_existing_e l D kA z hfl h0 a x0  _) (cwV 1 hts h_X6_read_e_0 rfl rfl rfl (by decide +kernel) ⟨Nat.le_of_ble_eq_true rfl, Nat.le_of_ble_eq_true rfl⟩) (fPv hK hP hD hS hG hF [0, 1] (by decide) rfl 0 7 rfl rfl rfl) rfl rfl hl.1 rfl (lv_room (Nat.le_of_ble_eq_true rfl)) dX6_read_2 ⟨Nat.le_of_ble_eq_true rfl, Nat.le_of_ble_eq_true rfl⟩) hS (fun q _ h => hF q h) hF (fun q _ h => hF q h) (fun E ce q9 u9 t H locs ht hvm hw hB hz1 hk1 hS hc9 hv9 hcl9 => ?_) (fun u1 ra9 t H locs ht hvm hw hB hz1 hk1 hS => ?_)
  ·
    obtain ⟨E9, w1⟩ := u9
    obtain ⟨e9, hB⟩ := hB
    have e9 : E9 = E := e9
    subst e9
    obtain ⟨hP, hD⟩ := fJ (wr := []) hP hD [0, 1] [] rfl rfl (by decide) (by decide) hk1 hF ht hB
    obtain ⟨hE9, rfl⟩ := hw
    try dsimp only at hE9
    have hP : va_P D vwCl [(h0, .inr (7, [.ref a, .int (nI 0), .int (nI 8), .int (nI 0), .int (nI 0), .int (nI 0), .int (nI 0)])), (a, .inl (kA 2, 4, .inr (.inr (.inr (.inr (fun _ => none))))))] H := hP
    have hD : va_D A [(h0, .inr (7, [.ref a, .int (nI 0), .int (nI 8), .int (nI 0), .int (nI 0), .int (nI 0), .int (nI 0)])), (a, .inl (kA 2, 4, .inr (.inr (.inr (.inr (fun _ => none))))))] := hD
    exact vx_out (fun x9 h9 => (hxt x9 h9).elim) hlocks hc9 hv9 hcl9 (xEnd0 hK hP hD hS ⟨hE9, rfl⟩) hS.2.2 (Nat.le_of_ble_eq_true rfl) (Nat.le_of_ble_eq_true rfl)
  · exact hw.elim

def wq_X6_copy_e : List Cond := .code yX6_copy cX6_copy 6 (some .int) :: (([.methodLink RX6 52 yX6_existing, .instanceMethod yX6_existing, .selects RX6 yX6_existing yX6_existing, .initialized RX6] : List Cond) ++ (wq_X6_existing_e ++ ([] : List Cond)))
theorem gd_X6_copy_e : wq_X6_copy_e.all goodWord = true := by decide +kernel
theorem h_X6_copy_e_0 : GoodIn wq_X6_copy_e (wsV RX6 52 RX6 yX6_existing wq_X6_existing_e) := goodIn_app (goodIn_r _ [1, 2, 3, 4] (by decide +kernel) (by decide +kernel)) (goodIn_sub (fun w h => List.mem_cons_of_mem _ (List.mem_append_right _ (List.mem_append_left _ h))) gd_X6_existing_e)
set_option maxHeartbeats 4000000 in
set_option maxRecDepth 100000 in
theorem c_X6_copy_e (l : Launch) (D : va_G) (kA : Nat → ClassId) (z : Nat) (hfl : l.stackTraces = false) (h0 a : Nat) (x0 x1 x2 : Int32)  : xI l D (tyL kA) z yX6_copy wq_X6_copy_e ({ frames := 7, cells := 1, slots := 6, locals := 120 }) [.ref h0, .int x0, .int x1, .int x2] [(h0, .inr (7, [.ref a, .int (nI 0), .int (nI 8), .int (nI 0), .int (nI 0), .int (nI 0), .int (nI 0)])), (a, .inl (kA 2, 4, .inr (.inr (.inr (.inr (fun _ => none))))))] (fun _ _ => False) (fun E w => (E = "java/lang/IndexOutOfBoundsException") ∧ w = [(h0, .inr (7, [.ref a, .int (nI 0), .int (nI 8), .int (nI 0), .int (nI 0), .int (nI 0), .int (nI 0)])), (a, .inl (kA 2, 4, .inr (.inr (.inr (.inr (fun _ => none))))))]) := by
  refine ofxI (cc := cX6_copy) (maxL := 6) RX6 rfl (by decide +kernel) rfl (Nat.le_of_ble_eq_true rfl) ?_
  intro p e s m args below meth c A ls hxt hE
  obtain ⟨hx, hb, hr, hml, hts, hown, hlocks, hA, hS, hP, hK, hD, hG, hl⟩ := hE
  have hl : lv_has ls 6 [(0, .ref h0), (1, .int x0), (2, .int x1), (3, .int x2)] := hl
  have hH : s.heap = s.heap := rfl
  refine lv_aload_n hx hb dX6_copy_0 rfl (lv_at hl 0 rfl) ?_
  refine lv_iload_n hx hb dX6_copy_1 rfl (lv_at hl 1 rfl) ?_
  have hF := va_free (wc := [(h0, .inr (7, [.ref a, .int (nI 0), .int (nI 8), .int (nI 0), .int (nI 0), .int (nI 0), .int (nI 0)])), (a, .inl (kA 2, 4, .inr (.inr (.inr (.inr (fun _ => none))))))]) hD hS hA [0, 1] rfl
  refine vx_callr (vx_runV (As := [.int x0]) (rest := []) ⟨hx, hb, hml, hown, hts⟩ (c_X6_existing_e l D kA z hfl h0 a x0  _) (cwV 1 hts h_X6_copy_e_0 rfl rfl rfl (by decide +kernel) ⟨Nat.le_of_ble_eq_true rfl, Nat.le_of_ble_eq_true rfl⟩) (fPv hK hP hD hS hG hF [0, 1] (by decide) rfl 0 7 rfl rfl rfl) rfl rfl hl.1 rfl (lv_room (Nat.le_of_ble_eq_true rfl)) dX6_copy_2 ⟨Nat.le_of_ble_eq_true rfl, Nat.le_of_ble_eq_true rfl⟩) hS (fun q _ h => hF q h) hF (fun q _ h => hF q h) (fun E ce q9 u9 t H locs ht hvm hw hB hz1 hk1 hS hc9 hv9 hcl9 => ?_) (fun u1 ra9 t H locs ht hvm hw hB hz1 hk1 hS => ?_)
  ·
    obtain ⟨E9, w1⟩ := u9
    obtain ⟨e9, hB⟩ := hB
    have e9 : E9 = E := e9
    subst e9
    obtain ⟨hP, hD⟩ := fJ (wr := []) hP hD [0, 1] [] rfl rfl (by decide) (by decide) hk1 hF ht hB
    obtain ⟨hE9, rfl⟩ := hw
    try dsimp only at hE9
    have hP : va_P D vwCl [(h0, .inr (7, [.ref a, .int (nI 0), .int (nI 8), .int (nI 0), .int (nI 0), .int (nI 0), .int (nI 0)])), (a, .inl (kA 2, 4, .inr (.inr (.inr (.inr (fun _ => none))))))] H := hP
    have hD : va_D A [(h0, .inr (7, [.ref a, .int (nI 0), .int (nI 8), .int (nI 0), .int (nI 0), .int (nI 0), .int (nI 0)])), (a, .inl (kA 2, 4, .inr (.inr (.inr (.inr (fun _ => none))))))] := hD
    exact vx_out (fun x9 h9 => (hxt x9 h9).elim) hlocks hc9 hv9 hcl9 (xEnd0 hK hP hD hS ⟨hE9, rfl⟩) hS.2.2 (Nat.le_of_ble_eq_true rfl) (Nat.le_of_ble_eq_true rfl)
  · exact hw.elim

def wq_X6_ofCell_e : List Cond := .code yX6_ofCell cX6_ofCell 5 (some .int) :: (([.methodLink RX6 52 yX6_existing, .instanceMethod yX6_existing, .selects RX6 yX6_existing yX6_existing, .initialized RX6] : List Cond) ++ (wq_X6_existing_e ++ ([] : List Cond)))
theorem gd_X6_ofCell_e : wq_X6_ofCell_e.all goodWord = true := by decide +kernel
theorem h_X6_ofCell_e_0 : GoodIn wq_X6_ofCell_e (wsV RX6 52 RX6 yX6_existing wq_X6_existing_e) := goodIn_app (goodIn_r _ [1, 2, 3, 4] (by decide +kernel) (by decide +kernel)) (goodIn_sub (fun w h => List.mem_cons_of_mem _ (List.mem_append_right _ (List.mem_append_left _ h))) gd_X6_existing_e)
set_option maxHeartbeats 4000000 in
set_option maxRecDepth 100000 in
theorem c_X6_ofCell_e (l : Launch) (D : va_G) (kA : Nat → ClassId) (z : Nat) (hfl : l.stackTraces = false) (h0 a : Nat) (x0 x1 x2 : Int32)  : xI l D (tyL kA) z yX6_ofCell wq_X6_ofCell_e ({ frames := 7, cells := 1, slots := 6, locals := 120 }) [.ref h0, .int x0, .int x1, .int x2] [(h0, .inr (7, [.ref a, .int (nI 0), .int (nI 8), .int (nI 0), .int (nI 0), .int (nI 0), .int (nI 0)])), (a, .inl (kA 2, 4, .inr (.inr (.inr (.inr (fun _ => none))))))] (fun _ _ => False) (fun E w => (E = "java/lang/IndexOutOfBoundsException") ∧ w = [(h0, .inr (7, [.ref a, .int (nI 0), .int (nI 8), .int (nI 0), .int (nI 0), .int (nI 0), .int (nI 0)])), (a, .inl (kA 2, 4, .inr (.inr (.inr (.inr (fun _ => none))))))]) := by
  refine ofxI (cc := cX6_ofCell) (maxL := 5) RX6 rfl (by decide +kernel) rfl (Nat.le_of_ble_eq_true rfl) ?_
  intro p e s m args below meth c A ls hxt hE
  obtain ⟨hx, hb, hr, hml, hts, hown, hlocks, hA, hS, hP, hK, hD, hG, hl⟩ := hE
  have hl : lv_has ls 5 [(0, .ref h0), (1, .int x0), (2, .int x1), (3, .int x2)] := hl
  have hH : s.heap = s.heap := rfl
  refine lv_aload_n hx hb dX6_ofCell_0 rfl (lv_at hl 0 rfl) ?_
  refine lv_iload_n hx hb dX6_ofCell_1 rfl (lv_at hl 1 rfl) ?_
  have hF := va_free (wc := [(h0, .inr (7, [.ref a, .int (nI 0), .int (nI 8), .int (nI 0), .int (nI 0), .int (nI 0), .int (nI 0)])), (a, .inl (kA 2, 4, .inr (.inr (.inr (.inr (fun _ => none))))))]) hD hS hA [0, 1] rfl
  refine vx_callr (vx_runV (As := [.int x0]) (rest := []) ⟨hx, hb, hml, hown, hts⟩ (c_X6_existing_e l D kA z hfl h0 a x0  _) (cwV 1 hts h_X6_ofCell_e_0 rfl rfl rfl (by decide +kernel) ⟨Nat.le_of_ble_eq_true rfl, Nat.le_of_ble_eq_true rfl⟩) (fPv hK hP hD hS hG hF [0, 1] (by decide) rfl 0 7 rfl rfl rfl) rfl rfl hl.1 rfl (lv_room (Nat.le_of_ble_eq_true rfl)) dX6_ofCell_2 ⟨Nat.le_of_ble_eq_true rfl, Nat.le_of_ble_eq_true rfl⟩) hS (fun q _ h => hF q h) hF (fun q _ h => hF q h) (fun E ce q9 u9 t H locs ht hvm hw hB hz1 hk1 hS hc9 hv9 hcl9 => ?_) (fun u1 ra9 t H locs ht hvm hw hB hz1 hk1 hS => ?_)
  ·
    obtain ⟨E9, w1⟩ := u9
    obtain ⟨e9, hB⟩ := hB
    have e9 : E9 = E := e9
    subst e9
    obtain ⟨hP, hD⟩ := fJ (wr := []) hP hD [0, 1] [] rfl rfl (by decide) (by decide) hk1 hF ht hB
    obtain ⟨hE9, rfl⟩ := hw
    try dsimp only at hE9
    have hP : va_P D vwCl [(h0, .inr (7, [.ref a, .int (nI 0), .int (nI 8), .int (nI 0), .int (nI 0), .int (nI 0), .int (nI 0)])), (a, .inl (kA 2, 4, .inr (.inr (.inr (.inr (fun _ => none))))))] H := hP
    have hD : va_D A [(h0, .inr (7, [.ref a, .int (nI 0), .int (nI 8), .int (nI 0), .int (nI 0), .int (nI 0), .int (nI 0)])), (a, .inl (kA 2, 4, .inr (.inr (.inr (.inr (fun _ => none))))))] := hD
    exact vx_out (fun x9 h9 => (hxt x9 h9).elim) hlocks hc9 hv9 hcl9 (xEnd0 hK hP hD hS ⟨hE9, rfl⟩) hS.2.2 (Nat.le_of_ble_eq_true rfl) (Nat.le_of_ble_eq_true rfl)
  · exact hw.elim

def wq_X6_ofTrack_e : List Cond := .code yX6_ofTrack cX6_ofTrack 4 (some .int) :: (([.methodLink RX6 52 yX6_existing, .instanceMethod yX6_existing, .selects RX6 yX6_existing yX6_existing, .initialized RX6] : List Cond) ++ (wq_X6_existing_e ++ ([] : List Cond)))
theorem gd_X6_ofTrack_e : wq_X6_ofTrack_e.all goodWord = true := by decide +kernel
theorem h_X6_ofTrack_e_0 : GoodIn wq_X6_ofTrack_e (wsV RX6 52 RX6 yX6_existing wq_X6_existing_e) := goodIn_app (goodIn_r _ [1, 2, 3, 4] (by decide +kernel) (by decide +kernel)) (goodIn_sub (fun w h => List.mem_cons_of_mem _ (List.mem_append_right _ (List.mem_append_left _ h))) gd_X6_existing_e)
set_option maxHeartbeats 4000000 in
set_option maxRecDepth 100000 in
theorem c_X6_ofTrack_e (l : Launch) (D : va_G) (kA : Nat → ClassId) (z : Nat) (hfl : l.stackTraces = false) (h0 a : Nat) (x0 x1 : Int32)  : xI l D (tyL kA) z yX6_ofTrack wq_X6_ofTrack_e ({ frames := 7, cells := 1, slots := 6, locals := 120 }) [.ref h0, .int x0, .int x1] [(h0, .inr (7, [.ref a, .int (nI 0), .int (nI 8), .int (nI 0), .int (nI 0), .int (nI 0), .int (nI 0)])), (a, .inl (kA 2, 4, .inr (.inr (.inr (.inr (fun _ => none))))))] (fun _ _ => False) (fun E w => (E = "java/lang/IndexOutOfBoundsException") ∧ w = [(h0, .inr (7, [.ref a, .int (nI 0), .int (nI 8), .int (nI 0), .int (nI 0), .int (nI 0), .int (nI 0)])), (a, .inl (kA 2, 4, .inr (.inr (.inr (.inr (fun _ => none))))))]) := by
  refine ofxI (cc := cX6_ofTrack) (maxL := 4) RX6 rfl (by decide +kernel) rfl (Nat.le_of_ble_eq_true rfl) ?_
  intro p e s m args below meth c A ls hxt hE
  obtain ⟨hx, hb, hr, hml, hts, hown, hlocks, hA, hS, hP, hK, hD, hG, hl⟩ := hE
  have hl : lv_has ls 4 [(0, .ref h0), (1, .int x0), (2, .int x1)] := hl
  have hH : s.heap = s.heap := rfl
  refine lv_aload_n hx hb dX6_ofTrack_0 rfl (lv_at hl 0 rfl) ?_
  refine lv_iload_n hx hb dX6_ofTrack_1 rfl (lv_at hl 1 rfl) ?_
  have hF := va_free (wc := [(h0, .inr (7, [.ref a, .int (nI 0), .int (nI 8), .int (nI 0), .int (nI 0), .int (nI 0), .int (nI 0)])), (a, .inl (kA 2, 4, .inr (.inr (.inr (.inr (fun _ => none))))))]) hD hS hA [0, 1] rfl
  refine vx_callr (vx_runV (As := [.int x0]) (rest := []) ⟨hx, hb, hml, hown, hts⟩ (c_X6_existing_e l D kA z hfl h0 a x0  _) (cwV 1 hts h_X6_ofTrack_e_0 rfl rfl rfl (by decide +kernel) ⟨Nat.le_of_ble_eq_true rfl, Nat.le_of_ble_eq_true rfl⟩) (fPv hK hP hD hS hG hF [0, 1] (by decide) rfl 0 7 rfl rfl rfl) rfl rfl hl.1 rfl (lv_room (Nat.le_of_ble_eq_true rfl)) dX6_ofTrack_2 ⟨Nat.le_of_ble_eq_true rfl, Nat.le_of_ble_eq_true rfl⟩) hS (fun q _ h => hF q h) hF (fun q _ h => hF q h) (fun E ce q9 u9 t H locs ht hvm hw hB hz1 hk1 hS hc9 hv9 hcl9 => ?_) (fun u1 ra9 t H locs ht hvm hw hB hz1 hk1 hS => ?_)
  ·
    obtain ⟨E9, w1⟩ := u9
    obtain ⟨e9, hB⟩ := hB
    have e9 : E9 = E := e9
    subst e9
    obtain ⟨hP, hD⟩ := fJ (wr := []) hP hD [0, 1] [] rfl rfl (by decide) (by decide) hk1 hF ht hB
    obtain ⟨hE9, rfl⟩ := hw
    try dsimp only at hE9
    have hP : va_P D vwCl [(h0, .inr (7, [.ref a, .int (nI 0), .int (nI 8), .int (nI 0), .int (nI 0), .int (nI 0), .int (nI 0)])), (a, .inl (kA 2, 4, .inr (.inr (.inr (.inr (fun _ => none))))))] H := hP
    have hD : va_D A [(h0, .inr (7, [.ref a, .int (nI 0), .int (nI 8), .int (nI 0), .int (nI 0), .int (nI 0), .int (nI 0)])), (a, .inl (kA 2, 4, .inr (.inr (.inr (.inr (fun _ => none))))))] := hD
    exact vx_out (fun x9 h9 => (hxt x9 h9).elim) hlocks hc9 hv9 hcl9 (xEnd0 hK hP hD hS ⟨hE9, rfl⟩) hS.2.2 (Nat.le_of_ble_eq_true rfl) (Nat.le_of_ble_eq_true rfl)
  · exact hw.elim

def wq_X6_vote_e : List Cond := .code yX6_vote cX6_vote 4 (some .int) :: (([.methodLink RX6 52 yX6_existing, .instanceMethod yX6_existing, .selects RX6 yX6_existing yX6_existing, .initialized RX6] : List Cond) ++ (wq_X6_existing_e ++ ([] : List Cond)))
theorem gd_X6_vote_e : wq_X6_vote_e.all goodWord = true := by decide +kernel
theorem h_X6_vote_e_0 : GoodIn wq_X6_vote_e (wsV RX6 52 RX6 yX6_existing wq_X6_existing_e) := goodIn_app (goodIn_r _ [1, 2, 3, 4] (by decide +kernel) (by decide +kernel)) (goodIn_sub (fun w h => List.mem_cons_of_mem _ (List.mem_append_right _ (List.mem_append_left _ h))) gd_X6_existing_e)
set_option maxHeartbeats 4000000 in
set_option maxRecDepth 100000 in
theorem c_X6_vote_e (l : Launch) (D : va_G) (kA : Nat → ClassId) (z : Nat) (hfl : l.stackTraces = false) (h0 a : Nat) (x0 x1 : Int32)  : xI l D (tyL kA) z yX6_vote wq_X6_vote_e ({ frames := 7, cells := 1, slots := 6, locals := 120 }) [.ref h0, .int x0, .int x1] [(h0, .inr (7, [.ref a, .int (nI 0), .int (nI 8), .int (nI 0), .int (nI 0), .int (nI 0), .int (nI 0)])), (a, .inl (kA 2, 4, .inr (.inr (.inr (.inr (fun _ => none))))))] (fun _ _ => False) (fun E w => (E = "java/lang/IndexOutOfBoundsException") ∧ w = [(h0, .inr (7, [.ref a, .int (nI 0), .int (nI 8), .int (nI 0), .int (nI 0), .int (nI 0), .int (nI 0)])), (a, .inl (kA 2, 4, .inr (.inr (.inr (.inr (fun _ => none))))))]) := by
  refine ofxI (cc := cX6_vote) (maxL := 4) RX6 rfl (by decide +kernel) rfl (Nat.le_of_ble_eq_true rfl) ?_
  intro p e s m args below meth c A ls hxt hE
  obtain ⟨hx, hb, hr, hml, hts, hown, hlocks, hA, hS, hP, hK, hD, hG, hl⟩ := hE
  have hl : lv_has ls 4 [(0, .ref h0), (1, .int x0), (2, .int x1)] := hl
  have hH : s.heap = s.heap := rfl
  refine lv_aload_n hx hb dX6_vote_0 rfl (lv_at hl 0 rfl) ?_
  refine lv_iload_n hx hb dX6_vote_1 rfl (lv_at hl 1 rfl) ?_
  have hF := va_free (wc := [(h0, .inr (7, [.ref a, .int (nI 0), .int (nI 8), .int (nI 0), .int (nI 0), .int (nI 0), .int (nI 0)])), (a, .inl (kA 2, 4, .inr (.inr (.inr (.inr (fun _ => none))))))]) hD hS hA [0, 1] rfl
  refine vx_callr (vx_runV (As := [.int x0]) (rest := []) ⟨hx, hb, hml, hown, hts⟩ (c_X6_existing_e l D kA z hfl h0 a x0  _) (cwV 1 hts h_X6_vote_e_0 rfl rfl rfl (by decide +kernel) ⟨Nat.le_of_ble_eq_true rfl, Nat.le_of_ble_eq_true rfl⟩) (fPv hK hP hD hS hG hF [0, 1] (by decide) rfl 0 7 rfl rfl rfl) rfl rfl hl.1 rfl (lv_room (Nat.le_of_ble_eq_true rfl)) dX6_vote_2 ⟨Nat.le_of_ble_eq_true rfl, Nat.le_of_ble_eq_true rfl⟩) hS (fun q _ h => hF q h) hF (fun q _ h => hF q h) (fun E ce q9 u9 t H locs ht hvm hw hB hz1 hk1 hS hc9 hv9 hcl9 => ?_) (fun u1 ra9 t H locs ht hvm hw hB hz1 hk1 hS => ?_)
  ·
    obtain ⟨E9, w1⟩ := u9
    obtain ⟨e9, hB⟩ := hB
    have e9 : E9 = E := e9
    subst e9
    obtain ⟨hP, hD⟩ := fJ (wr := []) hP hD [0, 1] [] rfl rfl (by decide) (by decide) hk1 hF ht hB
    obtain ⟨hE9, rfl⟩ := hw
    try dsimp only at hE9
    have hP : va_P D vwCl [(h0, .inr (7, [.ref a, .int (nI 0), .int (nI 8), .int (nI 0), .int (nI 0), .int (nI 0), .int (nI 0)])), (a, .inl (kA 2, 4, .inr (.inr (.inr (.inr (fun _ => none))))))] H := hP
    have hD : va_D A [(h0, .inr (7, [.ref a, .int (nI 0), .int (nI 8), .int (nI 0), .int (nI 0), .int (nI 0), .int (nI 0)])), (a, .inl (kA 2, 4, .inr (.inr (.inr (.inr (fun _ => none))))))] := hD
    exact vx_out (fun x9 h9 => (hxt x9 h9).elim) hlocks hc9 hv9 hcl9 (xEnd0 hK hP hD hS ⟨hE9, rfl⟩) hS.2.2 (Nat.le_of_ble_eq_true rfl) (Nat.le_of_ble_eq_true rfl)
  · exact hw.elim

def wq_X6_turn_e : List Cond := .code yX6_turn cX6_turn 5 (some .int) :: (([.methodLink RX6 216 yX6_existingTurn, .instanceMethod yX6_existingTurn, .selects RX6 yX6_existingTurn yX6_existingTurn, .initialized RX6] : List Cond) ++ (wq_X6_existingTurn_e ++ ([] : List Cond)))
theorem gd_X6_turn_e : wq_X6_turn_e.all goodWord = true := by decide +kernel
theorem h_X6_turn_e_0 : GoodIn wq_X6_turn_e (wsV RX6 216 RX6 yX6_existingTurn wq_X6_existingTurn_e) := goodIn_app (goodIn_r _ [1, 2, 3, 4] (by decide +kernel) (by decide +kernel)) (goodIn_sub (fun w h => List.mem_cons_of_mem _ (List.mem_append_right _ (List.mem_append_left _ h))) gd_X6_existingTurn_e)
set_option maxHeartbeats 4000000 in
set_option maxRecDepth 100000 in
theorem c_X6_turn_e (l : Launch) (D : va_G) (kA : Nat → ClassId) (z : Nat) (hfl : l.stackTraces = false) (h0 a : Nat) (x0 x1 x2 : Int32)  : xI l D (tyL kA) z yX6_turn wq_X6_turn_e ({ frames := 8, cells := 1, slots := 6, locals := 150 }) [.ref h0, .int x0, .int x1, .int x2] [(h0, .inr (7, [.ref a, .int (nI 0), .int (nI 8), .int (nI 0), .int (nI 0), .int (nI 0), .int (nI 0)])), (a, .inl (kA 2, 4, .inr (.inr (.inr (.inr (fun _ => none))))))] (fun _ _ => False) (fun E w => (E = "java/lang/IndexOutOfBoundsException") ∧ w = [(h0, .inr (7, [.ref a, .int (nI 0), .int (nI 8), .int (nI 0), .int (nI 0), .int (nI 0), .int (nI 0)])), (a, .inl (kA 2, 4, .inr (.inr (.inr (.inr (fun _ => none))))))]) := by
  refine ofxI (cc := cX6_turn) (maxL := 5) RX6 rfl (by decide +kernel) rfl (Nat.le_of_ble_eq_true rfl) ?_
  intro p e s m args below meth c A ls hxt hE
  obtain ⟨hx, hb, hr, hml, hts, hown, hlocks, hA, hS, hP, hK, hD, hG, hl⟩ := hE
  have hl : lv_has ls 5 [(0, .ref h0), (1, .int x0), (2, .int x1), (3, .int x2)] := hl
  have hH : s.heap = s.heap := rfl
  refine lv_aload_n hx hb dX6_turn_0 rfl (lv_at hl 0 rfl) ?_
  refine lv_iload_n hx hb dX6_turn_1 rfl (lv_at hl 1 rfl) ?_
  refine lv_iload_n hx hb dX6_turn_2 rfl (lv_at hl 2 rfl) ?_
  have hF := va_free (wc := [(h0, .inr (7, [.ref a, .int (nI 0), .int (nI 8), .int (nI 0), .int (nI 0), .int (nI 0), .int (nI 0)])), (a, .inl (kA 2, 4, .inr (.inr (.inr (.inr (fun _ => none))))))]) hD hS hA [0, 1] rfl
  refine vx_callr (vx_runV (As := [.int x0, .int x1]) (rest := []) ⟨hx, hb, hml, hown, hts⟩ (c_X6_existingTurn_e l D kA z hfl h0 a x0 x1  _) (cwV 2 hts h_X6_turn_e_0 rfl rfl rfl (by decide +kernel) ⟨Nat.le_of_ble_eq_true rfl, Nat.le_of_ble_eq_true rfl⟩) (fPv hK hP hD hS hG hF [0, 1] (by decide) rfl 0 7 rfl rfl rfl) rfl rfl hl.1 rfl (lv_room (Nat.le_of_ble_eq_true rfl)) dX6_turn_3 ⟨Nat.le_of_ble_eq_true rfl, Nat.le_of_ble_eq_true rfl⟩) hS (fun q _ h => hF q h) hF (fun q _ h => hF q h) (fun E ce q9 u9 t H locs ht hvm hw hB hz1 hk1 hS hc9 hv9 hcl9 => ?_) (fun u1 ra9 t H locs ht hvm hw hB hz1 hk1 hS => ?_)
  ·
    obtain ⟨E9, w1⟩ := u9
    obtain ⟨e9, hB⟩ := hB
    have e9 : E9 = E := e9
    subst e9
    obtain ⟨hP, hD⟩ := fJ (wr := []) hP hD [0, 1] [] rfl rfl (by decide) (by decide) hk1 hF ht hB
    obtain ⟨hE9, rfl⟩ := hw
    try dsimp only at hE9
    have hP : va_P D vwCl [(h0, .inr (7, [.ref a, .int (nI 0), .int (nI 8), .int (nI 0), .int (nI 0), .int (nI 0), .int (nI 0)])), (a, .inl (kA 2, 4, .inr (.inr (.inr (.inr (fun _ => none))))))] H := hP
    have hD : va_D A [(h0, .inr (7, [.ref a, .int (nI 0), .int (nI 8), .int (nI 0), .int (nI 0), .int (nI 0), .int (nI 0)])), (a, .inl (kA 2, 4, .inr (.inr (.inr (.inr (fun _ => none))))))] := hD
    exact vx_out (fun x9 h9 => (hxt x9 h9).elim) hlocks hc9 hv9 hcl9 (xEnd0 hK hP hD hS ⟨hE9, rfl⟩) hS.2.2 (Nat.le_of_ble_eq_true rfl) (Nat.le_of_ble_eq_true rfl)
  · exact hw.elim

def wq_X6_period_e : List Cond := .code yX6_period cX6_period 3 (some .double) :: (([.methodLink RX6 216 yX6_existingTurn, .instanceMethod yX6_existingTurn, .selects RX6 yX6_existingTurn yX6_existingTurn, .initialized RX6] : List Cond) ++ (wq_X6_existingTurn_e ++ ([] : List Cond)))
theorem gd_X6_period_e : wq_X6_period_e.all goodWord = true := by decide +kernel
theorem h_X6_period_e_0 : GoodIn wq_X6_period_e (wsV RX6 216 RX6 yX6_existingTurn wq_X6_existingTurn_e) := goodIn_app (goodIn_r _ [1, 2, 3, 4] (by decide +kernel) (by decide +kernel)) (goodIn_sub (fun w h => List.mem_cons_of_mem _ (List.mem_append_right _ (List.mem_append_left _ h))) gd_X6_existingTurn_e)
set_option maxHeartbeats 4000000 in
set_option maxRecDepth 100000 in
theorem c_X6_period_e (l : Launch) (D : va_G) (kA : Nat → ClassId) (z : Nat) (hfl : l.stackTraces = false) (h0 a : Nat) (x0 x1 : Int32)  : xD l D (tyL kA) z yX6_period wq_X6_period_e ({ frames := 8, cells := 1, slots := 6, locals := 150 }) [.ref h0, .int x0, .int x1] [(h0, .inr (7, [.ref a, .int (nI 0), .int (nI 8), .int (nI 0), .int (nI 0), .int (nI 0), .int (nI 0)])), (a, .inl (kA 2, 4, .inr (.inr (.inr (.inr (fun _ => none))))))] (fun _ _ => False) (fun E w => (E = "java/lang/IndexOutOfBoundsException") ∧ w = [(h0, .inr (7, [.ref a, .int (nI 0), .int (nI 8), .int (nI 0), .int (nI 0), .int (nI 0), .int (nI 0)])), (a, .inl (kA 2, 4, .inr (.inr (.inr (.inr (fun _ => none))))))]) := by
  refine ofxD (cc := cX6_period) (maxL := 3) RX6 rfl (by decide +kernel) rfl (Nat.le_of_ble_eq_true rfl) ?_
  intro p e s m args below meth c A ls hxt hE
  obtain ⟨hx, hb, hr, hml, hts, hown, hlocks, hA, hS, hP, hK, hD, hG, hl⟩ := hE
  have hl : lv_has ls 3 [(0, .ref h0), (1, .int x0), (2, .int x1)] := hl
  have hH : s.heap = s.heap := rfl
  refine lv_aload_n hx hb dX6_period_0 rfl (lv_at hl 0 rfl) ?_
  refine lv_iload_n hx hb dX6_period_1 rfl (lv_at hl 1 rfl) ?_
  refine lv_iload_n hx hb dX6_period_2 rfl (lv_at hl 2 rfl) ?_
  have hF := va_free (wc := [(h0, .inr (7, [.ref a, .int (nI 0), .int (nI 8), .int (nI 0), .int (nI 0), .int (nI 0), .int (nI 0)])), (a, .inl (kA 2, 4, .inr (.inr (.inr (.inr (fun _ => none))))))]) hD hS hA [0, 1] rfl
  refine vx_callr (vx_runV (As := [.int x0, .int x1]) (rest := []) ⟨hx, hb, hml, hown, hts⟩ (c_X6_existingTurn_e l D kA z hfl h0 a x0 x1  _) (cwV 2 hts h_X6_period_e_0 rfl rfl rfl (by decide +kernel) ⟨Nat.le_of_ble_eq_true rfl, Nat.le_of_ble_eq_true rfl⟩) (fPv hK hP hD hS hG hF [0, 1] (by decide) rfl 0 7 rfl rfl rfl) rfl rfl hl.1 rfl (lv_room (Nat.le_of_ble_eq_true rfl)) dX6_period_3 ⟨Nat.le_of_ble_eq_true rfl, Nat.le_of_ble_eq_true rfl⟩) hS (fun q _ h => hF q h) hF (fun q _ h => hF q h) (fun E ce q9 u9 t H locs ht hvm hw hB hz1 hk1 hS hc9 hv9 hcl9 => ?_) (fun u1 ra9 t H locs ht hvm hw hB hz1 hk1 hS => ?_)
  ·
    obtain ⟨E9, w1⟩ := u9
    obtain ⟨e9, hB⟩ := hB
    have e9 : E9 = E := e9
    subst e9
    obtain ⟨hP, hD⟩ := fJ (wr := []) hP hD [0, 1] [] rfl rfl (by decide) (by decide) hk1 hF ht hB
    obtain ⟨hE9, rfl⟩ := hw
    try dsimp only at hE9
    have hP : va_P D vwCl [(h0, .inr (7, [.ref a, .int (nI 0), .int (nI 8), .int (nI 0), .int (nI 0), .int (nI 0), .int (nI 0)])), (a, .inl (kA 2, 4, .inr (.inr (.inr (.inr (fun _ => none))))))] H := hP
    have hD : va_D A [(h0, .inr (7, [.ref a, .int (nI 0), .int (nI 8), .int (nI 0), .int (nI 0), .int (nI 0), .int (nI 0)])), (a, .inl (kA 2, 4, .inr (.inr (.inr (.inr (fun _ => none))))))] := hD
    exact vx_out (fun x9 h9 => (hxt x9 h9).elim) hlocks hc9 hv9 hcl9 (xEnd0 hK hP hD hS ⟨hE9, rfl⟩) hS.2.2 (Nat.le_of_ble_eq_true rfl) (Nat.le_of_ble_eq_true rfl)
  · exact hw.elim

def wq_X6_ofSector_e : List Cond := .code yX6_ofSector cX6_ofSector 5 (some .int) :: (([.methodLink RX6 52 yX6_existing, .instanceMethod yX6_existing, .selects RX6 yX6_existing yX6_existing, .initialized RX6] : List Cond) ++ (wq_X6_existing_e ++ ([] : List Cond)))
theorem gd_X6_ofSector_e : wq_X6_ofSector_e.all goodWord = true := by decide +kernel
theorem h_X6_ofSector_e_0 : GoodIn wq_X6_ofSector_e (wsV RX6 52 RX6 yX6_existing wq_X6_existing_e) := goodIn_app (goodIn_r _ [1, 2, 3, 4] (by decide +kernel) (by decide +kernel)) (goodIn_sub (fun w h => List.mem_cons_of_mem _ (List.mem_append_right _ (List.mem_append_left _ h))) gd_X6_existing_e)
set_option maxHeartbeats 4000000 in
set_option maxRecDepth 100000 in
theorem c_X6_ofSector_e (l : Launch) (D : va_G) (kA : Nat → ClassId) (z : Nat) (hfl : l.stackTraces = false) (h0 a : Nat) (x0 x1 x2 : Int32)  : xI l D (tyL kA) z yX6_ofSector wq_X6_ofSector_e ({ frames := 7, cells := 1, slots := 6, locals := 120 }) [.ref h0, .int x0, .int x1, .int x2] [(h0, .inr (7, [.ref a, .int (nI 0), .int (nI 8), .int (nI 0), .int (nI 0), .int (nI 0), .int (nI 0)])), (a, .inl (kA 2, 4, .inr (.inr (.inr (.inr (fun _ => none))))))] (fun _ _ => False) (fun E w => (E = "java/lang/IndexOutOfBoundsException") ∧ w = [(h0, .inr (7, [.ref a, .int (nI 0), .int (nI 8), .int (nI 0), .int (nI 0), .int (nI 0), .int (nI 0)])), (a, .inl (kA 2, 4, .inr (.inr (.inr (.inr (fun _ => none))))))]) := by
  refine ofxI (cc := cX6_ofSector) (maxL := 5) RX6 rfl (by decide +kernel) rfl (Nat.le_of_ble_eq_true rfl) ?_
  intro p e s m args below meth c A ls hxt hE
  obtain ⟨hx, hb, hr, hml, hts, hown, hlocks, hA, hS, hP, hK, hD, hG, hl⟩ := hE
  have hl : lv_has ls 5 [(0, .ref h0), (1, .int x0), (2, .int x1), (3, .int x2)] := hl
  have hH : s.heap = s.heap := rfl
  refine lv_aload_n hx hb dX6_ofSector_0 rfl (lv_at hl 0 rfl) ?_
  refine lv_iload_n hx hb dX6_ofSector_1 rfl (lv_at hl 1 rfl) ?_
  have hF := va_free (wc := [(h0, .inr (7, [.ref a, .int (nI 0), .int (nI 8), .int (nI 0), .int (nI 0), .int (nI 0), .int (nI 0)])), (a, .inl (kA 2, 4, .inr (.inr (.inr (.inr (fun _ => none))))))]) hD hS hA [0, 1] rfl
  refine vx_callr (vx_runV (As := [.int x0]) (rest := []) ⟨hx, hb, hml, hown, hts⟩ (c_X6_existing_e l D kA z hfl h0 a x0  _) (cwV 1 hts h_X6_ofSector_e_0 rfl rfl rfl (by decide +kernel) ⟨Nat.le_of_ble_eq_true rfl, Nat.le_of_ble_eq_true rfl⟩) (fPv hK hP hD hS hG hF [0, 1] (by decide) rfl 0 7 rfl rfl rfl) rfl rfl hl.1 rfl (lv_room (Nat.le_of_ble_eq_true rfl)) dX6_ofSector_2 ⟨Nat.le_of_ble_eq_true rfl, Nat.le_of_ble_eq_true rfl⟩) hS (fun q _ h => hF q h) hF (fun q _ h => hF q h) (fun E ce q9 u9 t H locs ht hvm hw hB hz1 hk1 hS hc9 hv9 hcl9 => ?_) (fun u1 ra9 t H locs ht hvm hw hB hz1 hk1 hS => ?_)
  ·
    obtain ⟨E9, w1⟩ := u9
    obtain ⟨e9, hB⟩ := hB
    have e9 : E9 = E := e9
    subst e9
    obtain ⟨hP, hD⟩ := fJ (wr := []) hP hD [0, 1] [] rfl rfl (by decide) (by decide) hk1 hF ht hB
    obtain ⟨hE9, rfl⟩ := hw
    try dsimp only at hE9
    have hP : va_P D vwCl [(h0, .inr (7, [.ref a, .int (nI 0), .int (nI 8), .int (nI 0), .int (nI 0), .int (nI 0), .int (nI 0)])), (a, .inl (kA 2, 4, .inr (.inr (.inr (.inr (fun _ => none))))))] H := hP
    have hD : va_D A [(h0, .inr (7, [.ref a, .int (nI 0), .int (nI 8), .int (nI 0), .int (nI 0), .int (nI 0), .int (nI 0)])), (a, .inl (kA 2, 4, .inr (.inr (.inr (.inr (fun _ => none))))))] := hD
    exact vx_out (fun x9 h9 => (hxt x9 h9).elim) hlocks hc9 hv9 hcl9 (xEnd0 hK hP hD hS ⟨hE9, rfl⟩) hS.2.2 (Nat.le_of_ble_eq_true rfl) (Nat.le_of_ble_eq_true rfl)
  · exact hw.elim

def wq_X6_chain_e : List Cond := .code yX6_chain cX6_chain 4 (some .int) :: (([.methodLink RX6 52 yX6_existing, .instanceMethod yX6_existing, .selects RX6 yX6_existing yX6_existing, .initialized RX6] : List Cond) ++ (wq_X6_existing_e ++ ([] : List Cond)))
theorem gd_X6_chain_e : wq_X6_chain_e.all goodWord = true := by decide +kernel
theorem h_X6_chain_e_0 : GoodIn wq_X6_chain_e (wsV RX6 52 RX6 yX6_existing wq_X6_existing_e) := goodIn_app (goodIn_r _ [1, 2, 3, 4] (by decide +kernel) (by decide +kernel)) (goodIn_sub (fun w h => List.mem_cons_of_mem _ (List.mem_append_right _ (List.mem_append_left _ h))) gd_X6_existing_e)
set_option maxHeartbeats 4000000 in
set_option maxRecDepth 100000 in
theorem c_X6_chain_e (l : Launch) (D : va_G) (kA : Nat → ClassId) (z : Nat) (hfl : l.stackTraces = false) (h0 a : Nat) (x0 x1 : Int32)  : xI l D (tyL kA) z yX6_chain wq_X6_chain_e ({ frames := 7, cells := 1, slots := 6, locals := 120 }) [.ref h0, .int x0, .int x1] [(h0, .inr (7, [.ref a, .int (nI 0), .int (nI 8), .int (nI 0), .int (nI 0), .int (nI 0), .int (nI 0)])), (a, .inl (kA 2, 4, .inr (.inr (.inr (.inr (fun _ => none))))))] (fun _ _ => False) (fun E w => (E = "java/lang/IndexOutOfBoundsException") ∧ w = [(h0, .inr (7, [.ref a, .int (nI 0), .int (nI 8), .int (nI 0), .int (nI 0), .int (nI 0), .int (nI 0)])), (a, .inl (kA 2, 4, .inr (.inr (.inr (.inr (fun _ => none))))))]) := by
  refine ofxI (cc := cX6_chain) (maxL := 4) RX6 rfl (by decide +kernel) rfl (Nat.le_of_ble_eq_true rfl) ?_
  intro p e s m args below meth c A ls hxt hE
  obtain ⟨hx, hb, hr, hml, hts, hown, hlocks, hA, hS, hP, hK, hD, hG, hl⟩ := hE
  have hl : lv_has ls 4 [(0, .ref h0), (1, .int x0), (2, .int x1)] := hl
  have hH : s.heap = s.heap := rfl
  refine lv_aload_n hx hb dX6_chain_0 rfl (lv_at hl 0 rfl) ?_
  refine lv_iload_n hx hb dX6_chain_1 rfl (lv_at hl 1 rfl) ?_
  have hF := va_free (wc := [(h0, .inr (7, [.ref a, .int (nI 0), .int (nI 8), .int (nI 0), .int (nI 0), .int (nI 0), .int (nI 0)])), (a, .inl (kA 2, 4, .inr (.inr (.inr (.inr (fun _ => none))))))]) hD hS hA [0, 1] rfl
  refine vx_callr (vx_runV (As := [.int x0]) (rest := []) ⟨hx, hb, hml, hown, hts⟩ (c_X6_existing_e l D kA z hfl h0 a x0  _) (cwV 1 hts h_X6_chain_e_0 rfl rfl rfl (by decide +kernel) ⟨Nat.le_of_ble_eq_true rfl, Nat.le_of_ble_eq_true rfl⟩) (fPv hK hP hD hS hG hF [0, 1] (by decide) rfl 0 7 rfl rfl rfl) rfl rfl hl.1 rfl (lv_room (Nat.le_of_ble_eq_true rfl)) dX6_chain_2 ⟨Nat.le_of_ble_eq_true rfl, Nat.le_of_ble_eq_true rfl⟩) hS (fun q _ h => hF q h) hF (fun q _ h => hF q h) (fun E ce q9 u9 t H locs ht hvm hw hB hz1 hk1 hS hc9 hv9 hcl9 => ?_) (fun u1 ra9 t H locs ht hvm hw hB hz1 hk1 hS => ?_)
  ·
    obtain ⟨E9, w1⟩ := u9
    obtain ⟨e9, hB⟩ := hB
    have e9 : E9 = E := e9
    subst e9
    obtain ⟨hP, hD⟩ := fJ (wr := []) hP hD [0, 1] [] rfl rfl (by decide) (by decide) hk1 hF ht hB
    obtain ⟨hE9, rfl⟩ := hw
    try dsimp only at hE9
    have hP : va_P D vwCl [(h0, .inr (7, [.ref a, .int (nI 0), .int (nI 8), .int (nI 0), .int (nI 0), .int (nI 0), .int (nI 0)])), (a, .inl (kA 2, 4, .inr (.inr (.inr (.inr (fun _ => none))))))] H := hP
    have hD : va_D A [(h0, .inr (7, [.ref a, .int (nI 0), .int (nI 8), .int (nI 0), .int (nI 0), .int (nI 0), .int (nI 0)])), (a, .inl (kA 2, 4, .inr (.inr (.inr (.inr (fun _ => none))))))] := hD
    exact vx_out (fun x9 h9 => (hxt x9 h9).elim) hlocks hc9 hv9 hcl9 (xEnd0 hK hP hD hS ⟨hE9, rfl⟩) hS.2.2 (Nat.le_of_ble_eq_true rfl) (Nat.le_of_ble_eq_true rfl)
  · exact hw.elim

def wq_X6_sure_e : List Cond := .code yX6_sure cX6_sure 4 (some .double) :: (([.methodLink RX6 52 yX6_existing, .instanceMethod yX6_existing, .selects RX6 yX6_existing yX6_existing, .initialized RX6] : List Cond) ++ (wq_X6_existing_e ++ ([] : List Cond)))
theorem gd_X6_sure_e : wq_X6_sure_e.all goodWord = true := by decide +kernel
theorem h_X6_sure_e_0 : GoodIn wq_X6_sure_e (wsV RX6 52 RX6 yX6_existing wq_X6_existing_e) := goodIn_app (goodIn_r _ [1, 2, 3, 4] (by decide +kernel) (by decide +kernel)) (goodIn_sub (fun w h => List.mem_cons_of_mem _ (List.mem_append_right _ (List.mem_append_left _ h))) gd_X6_existing_e)
set_option maxHeartbeats 4000000 in
set_option maxRecDepth 100000 in
theorem c_X6_sure_e (l : Launch) (D : va_G) (kA : Nat → ClassId) (z : Nat) (hfl : l.stackTraces = false) (h0 a : Nat) (x0 : Int32)  : xD l D (tyL kA) z yX6_sure wq_X6_sure_e ({ frames := 7, cells := 1, slots := 6, locals := 120 }) [.ref h0, .int x0] [(h0, .inr (7, [.ref a, .int (nI 0), .int (nI 8), .int (nI 0), .int (nI 0), .int (nI 0), .int (nI 0)])), (a, .inl (kA 2, 4, .inr (.inr (.inr (.inr (fun _ => none))))))] (fun _ _ => False) (fun E w => (E = "java/lang/IndexOutOfBoundsException") ∧ w = [(h0, .inr (7, [.ref a, .int (nI 0), .int (nI 8), .int (nI 0), .int (nI 0), .int (nI 0), .int (nI 0)])), (a, .inl (kA 2, 4, .inr (.inr (.inr (.inr (fun _ => none))))))]) := by
  refine ofxD (cc := cX6_sure) (maxL := 4) RX6 rfl (by decide +kernel) rfl (Nat.le_of_ble_eq_true rfl) ?_
  intro p e s m args below meth c A ls hxt hE
  obtain ⟨hx, hb, hr, hml, hts, hown, hlocks, hA, hS, hP, hK, hD, hG, hl⟩ := hE
  have hl : lv_has ls 4 [(0, .ref h0), (1, .int x0)] := hl
  have hH : s.heap = s.heap := rfl
  refine lv_aload_n hx hb dX6_sure_0 rfl (lv_at hl 0 rfl) ?_
  refine lv_iload_n hx hb dX6_sure_1 rfl (lv_at hl 1 rfl) ?_
  have hF := va_free (wc := [(h0, .inr (7, [.ref a, .int (nI 0), .int (nI 8), .int (nI 0), .int (nI 0), .int (nI 0), .int (nI 0)])), (a, .inl (kA 2, 4, .inr (.inr (.inr (.inr (fun _ => none))))))]) hD hS hA [0, 1] rfl
  refine vx_callr (vx_runV (As := [.int x0]) (rest := []) ⟨hx, hb, hml, hown, hts⟩ (c_X6_existing_e l D kA z hfl h0 a x0  _) (cwV 1 hts h_X6_sure_e_0 rfl rfl rfl (by decide +kernel) ⟨Nat.le_of_ble_eq_true rfl, Nat.le_of_ble_eq_true rfl⟩) (fPv hK hP hD hS hG hF [0, 1] (by decide) rfl 0 7 rfl rfl rfl) rfl rfl hl.1 rfl (lv_room (Nat.le_of_ble_eq_true rfl)) dX6_sure_2 ⟨Nat.le_of_ble_eq_true rfl, Nat.le_of_ble_eq_true rfl⟩) hS (fun q _ h => hF q h) hF (fun q _ h => hF q h) (fun E ce q9 u9 t H locs ht hvm hw hB hz1 hk1 hS hc9 hv9 hcl9 => ?_) (fun u1 ra9 t H locs ht hvm hw hB hz1 hk1 hS => ?_)
  ·
    obtain ⟨E9, w1⟩ := u9
    obtain ⟨e9, hB⟩ := hB
    have e9 : E9 = E := e9
    subst e9
    obtain ⟨hP, hD⟩ := fJ (wr := []) hP hD [0, 1] [] rfl rfl (by decide) (by decide) hk1 hF ht hB
    obtain ⟨hE9, rfl⟩ := hw
    try dsimp only at hE9
    have hP : va_P D vwCl [(h0, .inr (7, [.ref a, .int (nI 0), .int (nI 8), .int (nI 0), .int (nI 0), .int (nI 0), .int (nI 0)])), (a, .inl (kA 2, 4, .inr (.inr (.inr (.inr (fun _ => none))))))] H := hP
    have hD : va_D A [(h0, .inr (7, [.ref a, .int (nI 0), .int (nI 8), .int (nI 0), .int (nI 0), .int (nI 0), .int (nI 0)])), (a, .inl (kA 2, 4, .inr (.inr (.inr (.inr (fun _ => none))))))] := hD
    exact vx_out (fun x9 h9 => (hxt x9 h9).elim) hlocks hc9 hv9 hcl9 (xEnd0 hK hP hD hS ⟨hE9, rfl⟩) hS.2.2 (Nat.le_of_ble_eq_true rfl) (Nat.le_of_ble_eq_true rfl)
  · exact hw.elim

def wq_X6_plainLong_e : List Cond := .code yX6_plainLong cX6_plainLong 2 (some .int) :: (([.methodLink RX6 52 yX6_existing, .instanceMethod yX6_existing, .selects RX6 yX6_existing yX6_existing, .initialized RX6] : List Cond) ++ (wq_X6_existing_e ++ ([] : List Cond)))
theorem gd_X6_plainLong_e : wq_X6_plainLong_e.all goodWord = true := by decide +kernel
theorem h_X6_plainLong_e_0 : GoodIn wq_X6_plainLong_e (wsV RX6 52 RX6 yX6_existing wq_X6_existing_e) := goodIn_app (goodIn_r _ [1, 2, 3, 4] (by decide +kernel) (by decide +kernel)) (goodIn_sub (fun w h => List.mem_cons_of_mem _ (List.mem_append_right _ (List.mem_append_left _ h))) gd_X6_existing_e)
set_option maxHeartbeats 4000000 in
set_option maxRecDepth 100000 in
theorem c_X6_plainLong_e (l : Launch) (D : va_G) (kA : Nat → ClassId) (z : Nat) (hfl : l.stackTraces = false) (h0 a : Nat) (x0 : Int32)  : xI l D (tyL kA) z yX6_plainLong wq_X6_plainLong_e ({ frames := 7, cells := 1, slots := 6, locals := 120 }) [.ref h0, .int x0] [(h0, .inr (7, [.ref a, .int (nI 0), .int (nI 8), .int (nI 0), .int (nI 0), .int (nI 0), .int (nI 0)])), (a, .inl (kA 2, 4, .inr (.inr (.inr (.inr (fun _ => none))))))] (fun _ _ => False) (fun E w => (E = "java/lang/IndexOutOfBoundsException") ∧ w = [(h0, .inr (7, [.ref a, .int (nI 0), .int (nI 8), .int (nI 0), .int (nI 0), .int (nI 0), .int (nI 0)])), (a, .inl (kA 2, 4, .inr (.inr (.inr (.inr (fun _ => none))))))]) := by
  refine ofxI (cc := cX6_plainLong) (maxL := 2) RX6 rfl (by decide +kernel) rfl (Nat.le_of_ble_eq_true rfl) ?_
  intro p e s m args below meth c A ls hxt hE
  obtain ⟨hx, hb, hr, hml, hts, hown, hlocks, hA, hS, hP, hK, hD, hG, hl⟩ := hE
  have hl : lv_has ls 2 [(0, .ref h0), (1, .int x0)] := hl
  have hH : s.heap = s.heap := rfl
  refine lv_aload_n hx hb dX6_plainLong_0 rfl (lv_at hl 0 rfl) ?_
  refine lv_iload_n hx hb dX6_plainLong_1 rfl (lv_at hl 1 rfl) ?_
  have hF := va_free (wc := [(h0, .inr (7, [.ref a, .int (nI 0), .int (nI 8), .int (nI 0), .int (nI 0), .int (nI 0), .int (nI 0)])), (a, .inl (kA 2, 4, .inr (.inr (.inr (.inr (fun _ => none))))))]) hD hS hA [0, 1] rfl
  refine vx_callr (vx_runV (As := [.int x0]) (rest := []) ⟨hx, hb, hml, hown, hts⟩ (c_X6_existing_e l D kA z hfl h0 a x0  _) (cwV 1 hts h_X6_plainLong_e_0 rfl rfl rfl (by decide +kernel) ⟨Nat.le_of_ble_eq_true rfl, Nat.le_of_ble_eq_true rfl⟩) (fPv hK hP hD hS hG hF [0, 1] (by decide) rfl 0 7 rfl rfl rfl) rfl rfl hl.1 rfl (lv_room (Nat.le_of_ble_eq_true rfl)) dX6_plainLong_2 ⟨Nat.le_of_ble_eq_true rfl, Nat.le_of_ble_eq_true rfl⟩) hS (fun q _ h => hF q h) hF (fun q _ h => hF q h) (fun E ce q9 u9 t H locs ht hvm hw hB hz1 hk1 hS hc9 hv9 hcl9 => ?_) (fun u1 ra9 t H locs ht hvm hw hB hz1 hk1 hS => ?_)
  ·
    obtain ⟨E9, w1⟩ := u9
    obtain ⟨e9, hB⟩ := hB
    have e9 : E9 = E := e9
    subst e9
    obtain ⟨hP, hD⟩ := fJ (wr := []) hP hD [0, 1] [] rfl rfl (by decide) (by decide) hk1 hF ht hB
    obtain ⟨hE9, rfl⟩ := hw
    try dsimp only at hE9
    have hP : va_P D vwCl [(h0, .inr (7, [.ref a, .int (nI 0), .int (nI 8), .int (nI 0), .int (nI 0), .int (nI 0), .int (nI 0)])), (a, .inl (kA 2, 4, .inr (.inr (.inr (.inr (fun _ => none))))))] H := hP
    have hD : va_D A [(h0, .inr (7, [.ref a, .int (nI 0), .int (nI 8), .int (nI 0), .int (nI 0), .int (nI 0), .int (nI 0)])), (a, .inl (kA 2, 4, .inr (.inr (.inr (.inr (fun _ => none))))))] := hD
    exact vx_out (fun x9 h9 => (hxt x9 h9).elim) hlocks hc9 hv9 hcl9 (xEnd0 hK hP hD hS ⟨hE9, rfl⟩) hS.2.2 (Nat.le_of_ble_eq_true rfl) (Nat.le_of_ble_eq_true rfl)
  · exact hw.elim

def wq_X6_wouldLose_e : List Cond := .code yX6_wouldLose cX6_wouldLose 4 (some .int) :: (([.methodLink RX6 52 yX6_existing, .instanceMethod yX6_existing, .selects RX6 yX6_existing yX6_existing, .initialized RX6] : List Cond) ++ (wq_X6_existing_e ++ ([] : List Cond)))
theorem gd_X6_wouldLose_e : wq_X6_wouldLose_e.all goodWord = true := by decide +kernel
theorem h_X6_wouldLose_e_0 : GoodIn wq_X6_wouldLose_e (wsV RX6 52 RX6 yX6_existing wq_X6_existing_e) := goodIn_app (goodIn_r _ [1, 2, 3, 4] (by decide +kernel) (by decide +kernel)) (goodIn_sub (fun w h => List.mem_cons_of_mem _ (List.mem_append_right _ (List.mem_append_left _ h))) gd_X6_existing_e)
set_option maxHeartbeats 4000000 in
set_option maxRecDepth 100000 in
theorem c_X6_wouldLose_e (l : Launch) (D : va_G) (kA : Nat → ClassId) (z : Nat) (hfl : l.stackTraces = false) (h0 a : Nat) (x0 : Int32)  : xI l D (tyL kA) z yX6_wouldLose wq_X6_wouldLose_e ({ frames := 7, cells := 1, slots := 6, locals := 120 }) [.ref h0, .int x0] [(h0, .inr (7, [.ref a, .int (nI 0), .int (nI 8), .int (nI 0), .int (nI 0), .int (nI 0), .int (nI 0)])), (a, .inl (kA 2, 4, .inr (.inr (.inr (.inr (fun _ => none))))))] (fun _ _ => False) (fun E w => (E = "java/lang/IndexOutOfBoundsException") ∧ w = [(h0, .inr (7, [.ref a, .int (nI 0), .int (nI 8), .int (nI 0), .int (nI 0), .int (nI 0), .int (nI 0)])), (a, .inl (kA 2, 4, .inr (.inr (.inr (.inr (fun _ => none))))))]) := by
  refine ofxI (cc := cX6_wouldLose) (maxL := 4) RX6 rfl (by decide +kernel) rfl (Nat.le_of_ble_eq_true rfl) ?_
  intro p e s m args below meth c A ls hxt hE
  obtain ⟨hx, hb, hr, hml, hts, hown, hlocks, hA, hS, hP, hK, hD, hG, hl⟩ := hE
  have hl : lv_has ls 4 [(0, .ref h0), (1, .int x0)] := hl
  have hH : s.heap = s.heap := rfl
  refine lv_aload_n hx hb dX6_wouldLose_0 rfl (lv_at hl 0 rfl) ?_
  refine lv_iload_n hx hb dX6_wouldLose_1 rfl (lv_at hl 1 rfl) ?_
  have hF := va_free (wc := [(h0, .inr (7, [.ref a, .int (nI 0), .int (nI 8), .int (nI 0), .int (nI 0), .int (nI 0), .int (nI 0)])), (a, .inl (kA 2, 4, .inr (.inr (.inr (.inr (fun _ => none))))))]) hD hS hA [0, 1] rfl
  refine vx_callr (vx_runV (As := [.int x0]) (rest := []) ⟨hx, hb, hml, hown, hts⟩ (c_X6_existing_e l D kA z hfl h0 a x0  _) (cwV 1 hts h_X6_wouldLose_e_0 rfl rfl rfl (by decide +kernel) ⟨Nat.le_of_ble_eq_true rfl, Nat.le_of_ble_eq_true rfl⟩) (fPv hK hP hD hS hG hF [0, 1] (by decide) rfl 0 7 rfl rfl rfl) rfl rfl hl.1 rfl (lv_room (Nat.le_of_ble_eq_true rfl)) dX6_wouldLose_2 ⟨Nat.le_of_ble_eq_true rfl, Nat.le_of_ble_eq_true rfl⟩) hS (fun q _ h => hF q h) hF (fun q _ h => hF q h) (fun E ce q9 u9 t H locs ht hvm hw hB hz1 hk1 hS hc9 hv9 hcl9 => ?_) (fun u1 ra9 t H locs ht hvm hw hB hz1 hk1 hS => ?_)
  ·
    obtain ⟨E9, w1⟩ := u9
    obtain ⟨e9, hB⟩ := hB
    have e9 : E9 = E := e9
    subst e9
    obtain ⟨hP, hD⟩ := fJ (wr := []) hP hD [0, 1] [] rfl rfl (by decide) (by decide) hk1 hF ht hB
    obtain ⟨hE9, rfl⟩ := hw
    try dsimp only at hE9
    have hP : va_P D vwCl [(h0, .inr (7, [.ref a, .int (nI 0), .int (nI 8), .int (nI 0), .int (nI 0), .int (nI 0), .int (nI 0)])), (a, .inl (kA 2, 4, .inr (.inr (.inr (.inr (fun _ => none))))))] H := hP
    have hD : va_D A [(h0, .inr (7, [.ref a, .int (nI 0), .int (nI 8), .int (nI 0), .int (nI 0), .int (nI 0), .int (nI 0)])), (a, .inl (kA 2, 4, .inr (.inr (.inr (.inr (fun _ => none))))))] := hD
    exact vx_out (fun x9 h9 => (hxt x9 h9).elim) hlocks hc9 hv9 hcl9 (xEnd0 hK hP hD hS ⟨hE9, rfl⟩) hS.2.2 (Nat.le_of_ble_eq_true rfl) (Nat.le_of_ble_eq_true rfl)
  · exact hw.elim

def wq_X6_goodBy_e : List Cond := .code yX6_goodBy cX6_goodBy 4 (some .int) :: (([.methodLink RX6 52 yX6_existing, .instanceMethod yX6_existing, .selects RX6 yX6_existing yX6_existing, .initialized RX6] : List Cond) ++ (wq_X6_existing_e ++ ([] : List Cond)))
theorem gd_X6_goodBy_e : wq_X6_goodBy_e.all goodWord = true := by decide +kernel
theorem h_X6_goodBy_e_0 : GoodIn wq_X6_goodBy_e (wsV RX6 52 RX6 yX6_existing wq_X6_existing_e) := goodIn_app (goodIn_r _ [1, 2, 3, 4] (by decide +kernel) (by decide +kernel)) (goodIn_sub (fun w h => List.mem_cons_of_mem _ (List.mem_append_right _ (List.mem_append_left _ h))) gd_X6_existing_e)
set_option maxHeartbeats 4000000 in
set_option maxRecDepth 100000 in
theorem c_X6_goodBy_e (l : Launch) (D : va_G) (kA : Nat → ClassId) (z : Nat) (hfl : l.stackTraces = false) (h0 a : Nat) (x0 x1 : Int32)  : xI l D (tyL kA) z yX6_goodBy wq_X6_goodBy_e ({ frames := 7, cells := 1, slots := 6, locals := 120 }) [.ref h0, .int x0, .int x1] [(h0, .inr (7, [.ref a, .int (nI 0), .int (nI 8), .int (nI 0), .int (nI 0), .int (nI 0), .int (nI 0)])), (a, .inl (kA 2, 4, .inr (.inr (.inr (.inr (fun _ => none))))))] (fun _ _ => False) (fun E w => (E = "java/lang/IndexOutOfBoundsException") ∧ w = [(h0, .inr (7, [.ref a, .int (nI 0), .int (nI 8), .int (nI 0), .int (nI 0), .int (nI 0), .int (nI 0)])), (a, .inl (kA 2, 4, .inr (.inr (.inr (.inr (fun _ => none))))))]) := by
  refine ofxI (cc := cX6_goodBy) (maxL := 4) RX6 rfl (by decide +kernel) rfl (Nat.le_of_ble_eq_true rfl) ?_
  intro p e s m args below meth c A ls hxt hE
  obtain ⟨hx, hb, hr, hml, hts, hown, hlocks, hA, hS, hP, hK, hD, hG, hl⟩ := hE
  have hl : lv_has ls 4 [(0, .ref h0), (1, .int x0), (2, .int x1)] := hl
  have hH : s.heap = s.heap := rfl
  refine lv_aload_n hx hb dX6_goodBy_0 rfl (lv_at hl 0 rfl) ?_
  refine lv_iload_n hx hb dX6_goodBy_1 rfl (lv_at hl 1 rfl) ?_
  have hF := va_free (wc := [(h0, .inr (7, [.ref a, .int (nI 0), .int (nI 8), .int (nI 0), .int (nI 0), .int (nI 0), .int (nI 0)])), (a, .inl (kA 2, 4, .inr (.inr (.inr (.inr (fun _ => none))))))]) hD hS hA [0, 1] rfl
  refine vx_callr (vx_runV (As := [.int x0]) (rest := []) ⟨hx, hb, hml, hown, hts⟩ (c_X6_existing_e l D kA z hfl h0 a x0  _) (cwV 1 hts h_X6_goodBy_e_0 rfl rfl rfl (by decide +kernel) ⟨Nat.le_of_ble_eq_true rfl, Nat.le_of_ble_eq_true rfl⟩) (fPv hK hP hD hS hG hF [0, 1] (by decide) rfl 0 7 rfl rfl rfl) rfl rfl hl.1 rfl (lv_room (Nat.le_of_ble_eq_true rfl)) dX6_goodBy_2 ⟨Nat.le_of_ble_eq_true rfl, Nat.le_of_ble_eq_true rfl⟩) hS (fun q _ h => hF q h) hF (fun q _ h => hF q h) (fun E ce q9 u9 t H locs ht hvm hw hB hz1 hk1 hS hc9 hv9 hcl9 => ?_) (fun u1 ra9 t H locs ht hvm hw hB hz1 hk1 hS => ?_)
  ·
    obtain ⟨E9, w1⟩ := u9
    obtain ⟨e9, hB⟩ := hB
    have e9 : E9 = E := e9
    subst e9
    obtain ⟨hP, hD⟩ := fJ (wr := []) hP hD [0, 1] [] rfl rfl (by decide) (by decide) hk1 hF ht hB
    obtain ⟨hE9, rfl⟩ := hw
    try dsimp only at hE9
    have hP : va_P D vwCl [(h0, .inr (7, [.ref a, .int (nI 0), .int (nI 8), .int (nI 0), .int (nI 0), .int (nI 0), .int (nI 0)])), (a, .inl (kA 2, 4, .inr (.inr (.inr (.inr (fun _ => none))))))] H := hP
    have hD : va_D A [(h0, .inr (7, [.ref a, .int (nI 0), .int (nI 8), .int (nI 0), .int (nI 0), .int (nI 0), .int (nI 0)])), (a, .inl (kA 2, 4, .inr (.inr (.inr (.inr (fun _ => none))))))] := hD
    exact vx_out (fun x9 h9 => (hxt x9 h9).elim) hlocks hc9 hv9 hcl9 (xEnd0 hK hP hD hS ⟨hE9, rfl⟩) hS.2.2 (Nat.le_of_ble_eq_true rfl) (Nat.le_of_ble_eq_true rfl)
  · exact hw.elim

