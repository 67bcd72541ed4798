theorem n_X6_existing_e_X6 : ∀ w ∈ u_ws RX6 TX6 7, w ∈ wsX6_existing := by decide +kernel
set_option maxHeartbeats 4000000 in
set_option maxRecDepth 100000 in
theorem c_X6_existing_e (l : Launch) (D : va_G) (kA : Nat → ClassId) (z : Nat) (hfl : l.stackTraces = false) (h0 a : Nat) (x : Int32)  : xR l D (tyL kA) z yX6_existing wsX6_existing ({ frames := 6, cells := 1, slots := 6, locals := 90 }) [.ref h0, .int x] [(h0, .inr (7, [.ref a, .int (nI 0), .int (nI 8), .int (nI 0), .int (nI 0), .int (nI 0), .int (nI 0)])), (a, .inl (kA 2, 4, .inr (.inr (.inr (.inr (fun _ => none))))))] (fun _ _ => False) (fun E w => (E = "java/lang/IndexOutOfBoundsException") ∧ w = [(h0, .inr (7, [.ref a, .int (nI 0), .int (nI 8), .int (nI 0), .int (nI 0), .int (nI 0), .int (nI 0)])), (a, .inl (kA 2, 4, .inr (.inr (.inr (.inr (fun _ => none))))))]) := by
  refine ofxR (cc := cX6_existing) (maxL := 3) RX6 rfl (by decide +kernel) rfl (Nat.le_of_ble_eq_true rfl) ?_
  intro p e s m args below meth c A ls hxt hE
  obtain ⟨hx, hb, hr, hml, hts, hown, hlocks, hA, hS, hP, hK, hD, hG, hl⟩ := hE
  have hl : lv_has ls 3 [(0, .ref h0), (1, .int x)] := hl
  have hH : s.heap = s.heap := rfl
  refine lv_iload_n hx hb dX6_existing_0 rfl (lv_at hl 1 rfl) ?_
  refine lv_if_lt (tgt := 13) hx hb dX6_existing_1 (by decide) (fun c1 => ?_) (fun c1 => ?_)
  ·
    obtain ⟨sa9, hsa9⟩ := hG.2.2.1 _ (List.mem_of_getElem? (i := 10) rfl)
    exact vx_throwSW (own := RX6) (cls := "java/lang/IndexOutOfBoundsException") (text := "there is no such track") (names := ["java/lang/RuntimeException", "java/lang/Exception"]) hx hb hfl hown (by decide +kernel) (by decide +kernel) (wAt hts 1 (w := .classLink RX6 208 "java/lang/IndexOutOfBoundsException") rfl) (wAt hts 2 (w := .initialized "java/lang/IndexOutOfBoundsException") rfl) hsa9 (exat_IndexOutOfBoundsException (fun w h => hts w (List.mem_cons_of_mem _ (List.mem_append_right _ h))) hG.2.2.2.1) exot_IndexOutOfBoundsException hG.2.1.1 hG.2.1.2 hS (by rw [hml]; exact hl.1) dX6_existing_13 dX6_existing_16 dX6_existing_17 dX6_existing_20 dX6_existing_23 (fun x9 h9 => (hxt x9 h9).elim) (by decide) (Nat.le_of_ble_eq_true rfl) (Nat.le_of_ble_eq_true rfl) (Nat.le_of_ble_eq_true rfl) hlocks (xEnd hK hP hD hS ⟨rfl, rfl⟩) hS.2.2 (Nat.le_of_ble_eq_true rfl) (Nat.le_of_ble_eq_true rfl)
  ·
    obtain ⟨n9, h9, rfl⟩ := rq_neg c1
    refine lv_iload_n hx hb dX6_existing_4 rfl (lv_at hl 1 rfl) ?_
    refine lv_aload_n hx hb dX6_existing_5 rfl (lv_at hl 0 rfl) ?_
    refine va_get (D := D) (ci := 7) (v := .ref a) (C := RX6) (T := TX6) (N := 7) hx hb hts n_X6_existing_e_X6 hown hK hP 0 rfl rfl 0 (by decide) (wAt hts 3 (w := .fieldLink RX6 11 "FluxBench" "tracks" "[LFluxBench$Track;") rfl) (fun _ h9 => h9) rfl dX6_existing_6 ?_
    refine va_alen (v := nI 4) hx hb hK hP 1 2 rfl rfl rfl dX6_existing_9 ?_
    refine lv_icmp_lt (tgt := 24) hx hb dX6_existing_10 (by decide) (fun c10 => ?_) (fun c10 => ?_)
    ·
      rw [qlt (a := n9) (b := 4) (by omega) (by omega)] at c10
      refine lv_aload_n hx hb dX6_existing_24 rfl (lv_at hl 0 rfl) ?_
      refine va_get (D := D) (ci := 7) (v := .ref a) (C := RX6) (T := TX6) (N := 7) hx hb hts n_X6_existing_e_X6 hown hK hP 0 rfl rfl 0 (by decide) (wAt hts 3 (w := .fieldLink RX6 11 "FluxBench" "tracks" "[LFluxBench$Track;") rfl) (fun _ h9 => h9) rfl dX6_existing_25 ?_
      refine lv_iload_n hx hb dX6_existing_28 rfl (lv_at hl 1 rfl) ?_
      refine va_aldq hx hb hK hP 1 2 rfl rfl (vp_in_nI (n := n9) (by omega) (by decide)) dX6_existing_29 ?_
      try rw [nI_clamp (n := n9) (by omega)]
      refine W.eq (g2 := F0 m 30 ls [.null]) rfl ?_
      refine lv_astore_nN (lv' := [(2, .null), (0, .ref h0), (1, .int (nI n9))]) hx hb dX6_existing_30 rfl hl (by decide) rfl (fun ls hl => ?_)
      refine lv_aload_nN hx hb dX6_existing_31 rfl (lv_at hl 0 rfl) ?_
      refine lv_ifnonnullN hx hb dX6_existing_32 ?_
      obtain ⟨sa9, hsa9⟩ := hG.2.2.1 _ (List.mem_of_getElem? (i := 11) rfl)
      exact vx_throwSW (own := RX6) (cls := "java/lang/IndexOutOfBoundsException") (text := "there is no such track yet") (names := ["java/lang/RuntimeException", "java/lang/Exception"]) hx hb hfl hown (by decide +kernel) (by decide +kernel) (wAt hts 1 (w := .classLink RX6 208 "java/lang/IndexOutOfBoundsException") rfl) (wAt hts 2 (w := .initialized "java/lang/IndexOutOfBoundsException") rfl) hsa9 (exat_IndexOutOfBoundsException (fun w h => hts w (List.mem_cons_of_mem _ (List.mem_append_right _ h))) hG.2.2.2.1) exot_IndexOutOfBoundsException hG.2.1.1 hG.2.1.2 hS (by rw [hml]; exact hl.1) dX6_existing_35 dX6_existing_38 dX6_existing_39 dX6_existing_42 dX6_existing_45 (fun x9 h9 => (hxt x9 h9).elim) (by decide) (Nat.le_of_ble_eq_true rfl) (Nat.le_of_ble_eq_true rfl) (Nat.le_of_ble_eq_true rfl) hlocks (xEnd hK hP hD hS ⟨rfl, rfl⟩) hS.2.2 (Nat.le_of_ble_eq_true rfl) (Nat.le_of_ble_eq_true rfl)
    ·
      rw [qlt (a := n9) (b := 4) (by omega) (by omega)] at c10
      obtain ⟨sa9, hsa9⟩ := hG.2.2.1 _ (List.mem_of_getElem? (i := 10) rfl)
      exact vx_throwSW (own := RX6) (cls := "java/lang/IndexOutOfBoundsException") (text := "there is no such track") (names := ["java/lang/RuntimeException", "java/lang/Exception"]) hx hb hfl hown (by decide +kernel) (by decide +kernel) (wAt hts 1 (w := .classLink RX6 208 "java/lang/IndexOutOfBoundsException") rfl) (wAt hts 2 (w := .initialized "java/lang/IndexOutOfBoundsException") rfl) hsa9 (exat_IndexOutOfBoundsException (fun w h => hts w (List.mem_cons_of_mem _ (List.mem_append_right _ h))) hG.2.2.2.1) exot_IndexOutOfBoundsException hG.2.1.1 hG.2.1.2 hS (by rw [hml]; exact hl.1) dX6_existing_13 dX6_existing_16 dX6_existing_17 dX6_existing_20 dX6_existing_23 (fun x9 h9 => (hxt x9 h9).elim) (by decide) (Nat.le_of_ble_eq_true rfl) (Nat.le_of_ble_eq_true rfl) (Nat.le_of_ble_eq_true rfl) hlocks (xEnd hK hP hD hS ⟨rfl, rfl⟩) hS.2.2 (Nat.le_of_ble_eq_true rfl) (Nat.le_of_ble_eq_true rfl)

set_option maxHeartbeats 4000000 in
set_option maxRecDepth 100000 in
theorem c_X6_existingTurn_e (l : Launch) (D : va_G) (kA : Nat → ClassId) (z : Nat) (hfl : l.stackTraces = false) (h0 a : Nat) (x y : Int32)  : xR l D (tyL kA) z yX6_existingTurn wsX6_existingTurn ({ frames := 7, cells := 1, slots := 6, locals := 120 }) [.ref h0, .int x, .int y] [(h0, .inr (7, [.ref a, .int (nI 0), .int (nI 8), .int (nI 0), .int (nI 0), .int (nI 0), .int (nI 0)])), (a, .inl (kA 2, 4, .inr (.inr (.inr (.inr (fun _ => none))))))] (fun _ _ => False) (fun E w => (E = "java/lang/IndexOutOfBoundsException") ∧ w = [(h0, .inr (7, [.ref a, .int (nI 0), .int (nI 8), .int (nI 0), .int (nI 0), .int (nI 0), .int (nI 0)])), (a, .inl (kA 2, 4, .inr (.inr (.inr (.inr (fun _ => none))))))]) := by
  refine ofxR (cc := cX6_existingTurn) (maxL := 4) RX6 rfl (by decide +kernel) rfl (Nat.le_of_ble_eq_true rfl) ?_
  intro p e s m args below meth c A ls hxt hE
  obtain ⟨hx, hb, hr, hml, hts, hown, hlocks, hA, hS, hP, hK, hD, hG, hl⟩ := hE
  have hl : lv_has ls 4 [(0, .ref h0), (1, .int x), (2, .int y)] := hl
  have hH : s.heap = s.heap := rfl
  refine lv_aload_n hx hb dX6_existingTurn_0 rfl (lv_at hl 0 rfl) ?_
  refine lv_iload_n hx hb dX6_existingTurn_1 rfl (lv_at hl 1 rfl) ?_
  have hF := va_free (wc := [(h0, .inr (7, [.ref a, .int (nI 0), .int (nI 8), .int (nI 0), .int (nI 0), .int (nI 0), .int (nI 0)])), (a, .inl (kA 2, 4, .inr (.inr (.inr (.inr (fun _ => none))))))]) hD hS hA [0, 1] rfl
  refine vx_callr (vx_runV (As := [.int x]) (rest := []) ⟨hx, hb, hml, hown, hts⟩ (c_X6_existing_e l D kA z hfl h0 a x  _) (cwV 1 hts gX6_existingTurn_X6_existing rfl rfl rfl (by decide +kernel) ⟨Nat.le_of_ble_eq_true rfl, Nat.le_of_ble_eq_true rfl⟩) (fPv hK hP hD hS hG hF [0, 1] (by decide) rfl 0 7 rfl rfl rfl) rfl rfl hl.1 rfl (lv_room (Nat.le_of_ble_eq_true rfl)) dX6_existingTurn_2 ⟨Nat.le_of_ble_eq_true rfl, Nat.le_of_ble_eq_true rfl⟩) hS (fun q _ h => hF q h) hF (fun q _ h => hF q h) (fun E ce q9 u9 t H locs ht hvm hw hB hz1 hk1 hS hc9 hv9 hcl9 => ?_) (fun u1 ra9 t H locs ht hvm hw hB hz1 hk1 hS => ?_)
  ·
    obtain ⟨E9, w1⟩ := u9
    obtain ⟨e9, hB⟩ := hB
    have e9 : E9 = E := e9
    subst e9
    obtain ⟨hP, hD⟩ := fJ (wr := []) hP hD [0, 1] [] rfl rfl (by decide) (by decide) hk1 hF ht hB
    obtain ⟨hE9, rfl⟩ := hw
    try dsimp only at hE9
    have hP : va_P D vwCl [(h0, .inr (7, [.ref a, .int (nI 0), .int (nI 8), .int (nI 0), .int (nI 0), .int (nI 0), .int (nI 0)])), (a, .inl (kA 2, 4, .inr (.inr (.inr (.inr (fun _ => none))))))] H := hP
    have hD : va_D A [(h0, .inr (7, [.ref a, .int (nI 0), .int (nI 8), .int (nI 0), .int (nI 0), .int (nI 0), .int (nI 0)])), (a, .inl (kA 2, 4, .inr (.inr (.inr (.inr (fun _ => none))))))] := hD
    exact vx_out (fun x9 h9 => (hxt x9 h9).elim) hlocks hc9 hv9 hcl9 (xEnd0 hK hP hD hS ⟨hE9, rfl⟩) hS.2.2 (Nat.le_of_ble_eq_true rfl) (Nat.le_of_ble_eq_true rfl)
  · exact hw.elim

set_option maxHeartbeats 4000000 in
set_option maxRecDepth 100000 in
theorem c_X6_write_e (l : Launch) (D : va_G) (kA : Nat → ClassId) (z : Nat) (hfl : l.stackTraces = false) (h0 a : Nat) (x0 x1 : Int32)  : xI l D (tyL kA) z yX6_write wsX6_write ({ frames := 7, cells := 1, slots := 6, locals := 120 }) [.ref h0, .int x0, .int x1] [(h0, .inr (7, [.ref a, .int (nI 0), .int (nI 8), .int (nI 0), .int (nI 0), .int (nI 0), .int (nI 0)])), (a, .inl (kA 2, 4, .inr (.inr (.inr (.inr (fun _ => none))))))] (fun _ _ => False) (fun E w => (E = "java/lang/IndexOutOfBoundsException") ∧ w = [(h0, .inr (7, [.ref a, .int (nI 0), .int (nI 8), .int (nI 0), .int (nI 0), .int (nI 0), .int (nI 0)])), (a, .inl (kA 2, 4, .inr (.inr (.inr (.inr (fun _ => none))))))]) := by
  refine ofxI (cc := cX6_write) (maxL := 4) RX6 rfl (by decide +kernel) rfl (Nat.le_of_ble_eq_true rfl) ?_
  intro p e s m args below meth c A ls hxt hE
  obtain ⟨hx, hb, hr, hml, hts, hown, hlocks, hA, hS, hP, hK, hD, hG, hl⟩ := hE
  have hl : lv_has ls 4 [(0, .ref h0), (1, .int x0), (2, .int x1)] := hl
  have hH : s.heap = s.heap := rfl
  refine lv_aload_n hx hb dX6_write_0 rfl (lv_at hl 0 rfl) ?_
  refine lv_iload_n hx hb dX6_write_1 rfl (lv_at hl 1 rfl) ?_
  have hF := va_free (wc := [(h0, .inr (7, [.ref a, .int (nI 0), .int (nI 8), .int (nI 0), .int (nI 0), .int (nI 0), .int (nI 0)])), (a, .inl (kA 2, 4, .inr (.inr (.inr (.inr (fun _ => none))))))]) hD hS hA [0, 1] rfl
  refine vx_callr (vx_runV (As := [.int x0]) (rest := []) ⟨hx, hb, hml, hown, hts⟩ (c_X6_existing_e l D kA z hfl h0 a x0  _) (cwV 1 hts gX6_write_X6_existing rfl rfl rfl (by decide +kernel) ⟨Nat.le_of_ble_eq_true rfl, Nat.le_of_ble_eq_true rfl⟩) (fPv hK hP hD hS hG hF [0, 1] (by decide) rfl 0 7 rfl rfl rfl) rfl rfl hl.1 rfl (lv_room (Nat.le_of_ble_eq_true rfl)) dX6_write_2 ⟨Nat.le_of_ble_eq_true rfl, Nat.le_of_ble_eq_true rfl⟩) hS (fun q _ h => hF q h) hF (fun q _ h => hF q h) (fun E ce q9 u9 t H locs ht hvm hw hB hz1 hk1 hS hc9 hv9 hcl9 => ?_) (fun u1 ra9 t H locs ht hvm hw hB hz1 hk1 hS => ?_)
  ·
    obtain ⟨E9, w1⟩ := u9
    obtain ⟨e9, hB⟩ := hB
    have e9 : E9 = E := e9
    subst e9
    obtain ⟨hP, hD⟩ := fJ (wr := []) hP hD [0, 1] [] rfl rfl (by decide) (by decide) hk1 hF ht hB
    obtain ⟨hE9, rfl⟩ := hw
    try dsimp only at hE9
    have hP : va_P D vwCl [(h0, .inr (7, [.ref a, .int (nI 0), .int (nI 8), .int (nI 0), .int (nI 0), .int (nI 0), .int (nI 0)])), (a, .inl (kA 2, 4, .inr (.inr (.inr (.inr (fun _ => none))))))] H := hP
    have hD : va_D A [(h0, .inr (7, [.ref a, .int (nI 0), .int (nI 8), .int (nI 0), .int (nI 0), .int (nI 0), .int (nI 0)])), (a, .inl (kA 2, 4, .inr (.inr (.inr (.inr (fun _ => none))))))] := hD
    exact vx_out (fun x9 h9 => (hxt x9 h9).elim) hlocks hc9 hv9 hcl9 (xEnd0 hK hP hD hS ⟨hE9, rfl⟩) hS.2.2 (Nat.le_of_ble_eq_true rfl) (Nat.le_of_ble_eq_true rfl)
  · exact hw.elim

set_option maxHeartbeats 4000000 in
set_option maxRecDepth 100000 in
theorem c_X6_mark_e (l : Launch) (D : va_G) (kA : Nat → ClassId) (z : Nat) (hfl : l.stackTraces = false) (h0 a : Nat) (x0 : Int32)  : xI l D (tyL kA) z yX6_mark wsX6_mark ({ frames := 7, cells := 1, slots := 6, locals := 120 }) [.ref h0, .int x0] [(h0, .inr (7, [.ref a, .int (nI 0), .int (nI 8), .int (nI 0), .int (nI 0), .int (nI 0), .int (nI 0)])), (a, .inl (kA 2, 4, .inr (.inr (.inr (.inr (fun _ => none))))))] (fun _ _ => False) (fun E w => (E = "java/lang/IndexOutOfBoundsException") ∧ w = [(h0, .inr (7, [.ref a, .int (nI 0), .int (nI 8), .int (nI 0), .int (nI 0), .int (nI 0), .int (nI 0)])), (a, .inl (kA 2, 4, .inr (.inr (.inr (.inr (fun _ => none))))))]) := by
  refine ofxI (cc := cX6_mark) (maxL := 3) RX6 rfl (by decide +kernel) rfl (Nat.le_of_ble_eq_true rfl) ?_
  intro p e s m args below meth c A ls hxt hE
  obtain ⟨hx, hb, hr, hml, hts, hown, hlocks, hA, hS, hP, hK, hD, hG, hl⟩ := hE
  have hl : lv_has ls 3 [(0, .ref h0), (1, .int x0)] := hl
  have hH : s.heap = s.heap := rfl
  refine lv_aload_n hx hb dX6_mark_0 rfl (lv_at hl 0 rfl) ?_
  refine lv_iload_n hx hb dX6_mark_1 rfl (lv_at hl 1 rfl) ?_
  have hF := va_free (wc := [(h0, .inr (7, [.ref a, .int (nI 0), .int (nI 8), .int (nI 0), .int (nI 0), .int (nI 0), .int (nI 0)])), (a, .inl (kA 2, 4, .inr (.inr (.inr (.inr (fun _ => none))))))]) hD hS hA [0, 1] rfl
  refine vx_callr (vx_runV (As := [.int x0]) (rest := []) ⟨hx, hb, hml, hown, hts⟩ (c_X6_existing_e l D kA z hfl h0 a x0  _) (cwV 1 hts gX6_mark_X6_existing rfl rfl rfl (by decide +kernel) ⟨Nat.le_of_ble_eq_true rfl, Nat.le_of_ble_eq_true rfl⟩) (fPv hK hP hD hS hG hF [0, 1] (by decide) rfl 0 7 rfl rfl rfl) rfl rfl hl.1 rfl (lv_room (Nat.le_of_ble_eq_true rfl)) dX6_mark_2 ⟨Nat.le_of_ble_eq_true rfl, Nat.le_of_ble_eq_true rfl⟩) hS (fun q _ h => hF q h) hF (fun q _ h => hF q h) (fun E ce q9 u9 t H locs ht hvm hw hB hz1 hk1 hS hc9 hv9 hcl9 => ?_) (fun u1 ra9 t H locs ht hvm hw hB hz1 hk1 hS => ?_)
  ·
    obtain ⟨E9, w1⟩ := u9
    obtain ⟨e9, hB⟩ := hB
    have e9 : E9 = E := e9
    subst e9
    obtain ⟨hP, hD⟩ := fJ (wr := []) hP hD [0, 1] [] rfl rfl (by decide) (by decide) hk1 hF ht hB
    obtain ⟨hE9, rfl⟩ := hw
    try dsimp only at hE9
    have hP : va_P D vwCl [(h0, .inr (7, [.ref a, .int (nI 0), .int (nI 8), .int (nI 0), .int (nI 0), .int (nI 0), .int (nI 0)])), (a, .inl (kA 2, 4, .inr (.inr (.inr (.inr (fun _ => none))))))] H := hP
    have hD : va_D A [(h0, .inr (7, [.ref a, .int (nI 0), .int (nI 8), .int (nI 0), .int (nI 0), .int (nI 0), .int (nI 0)])), (a, .inl (kA 2, 4, .inr (.inr (.inr (.inr (fun _ => none))))))] := hD
    exact vx_out (fun x9 h9 => (hxt x9 h9).elim) hlocks hc9 hv9 hcl9 (xEnd0 hK hP hD hS ⟨hE9, rfl⟩) hS.2.2 (Nat.le_of_ble_eq_true rfl) (Nat.le_of_ble_eq_true rfl)
  · exact hw.elim

set_option maxHeartbeats 4000000 in
set_option maxRecDepth 100000 in
theorem c_X6_sector_e (l : Launch) (D : va_G) (kA : Nat → ClassId) (z : Nat) (hfl : l.stackTraces = false) (h0 a : Nat) (x0 x1 x2 x3 x4 : Int32)  : xI l D (tyL kA) z yX6_sector wsX6_sector ({ frames := 7, cells := 1, slots := 6, locals := 120 }) [.ref h0, .int x0, .int x1, .int x2, .int x3, .int x4] [(h0, .inr (7, [.ref a, .int (nI 0), .int (nI 8), .int (nI 0), .int (nI 0), .int (nI 0), .int (nI 0)])), (a, .inl (kA 2, 4, .inr (.inr (.inr (.inr (fun _ => none))))))] (fun _ _ => False) (fun E w => (E = "java/lang/IndexOutOfBoundsException") ∧ w = [(h0, .inr (7, [.ref a, .int (nI 0), .int (nI 8), .int (nI 0), .int (nI 0), .int (nI 0), .int (nI 0)])), (a, .inl (kA 2, 4, .inr (.inr (.inr (.inr (fun _ => none))))))]) := by
  refine ofxI (cc := cX6_sector) (maxL := 7) RX6 rfl (by decide +kernel) rfl (Nat.le_of_ble_eq_true rfl) ?_
  intro p e s m args below meth c A ls hxt hE
  obtain ⟨hx, hb, hr, hml, hts, hown, hlocks, hA, hS, hP, hK, hD, hG, hl⟩ := hE
  have hl : lv_has ls 7 [(0, .ref h0), (1, .int x0), (2, .int x1), (3, .int x2), (4, .int x3), (5, .int x4)] := hl
  have hH : s.heap = s.heap := rfl
  refine lv_aload_n hx hb dX6_sector_0 rfl (lv_at hl 0 rfl) ?_
  refine lv_iload_n hx hb dX6_sector_1 rfl (lv_at hl 1 rfl) ?_
  have hF := va_free (wc := [(h0, .inr (7, [.ref a, .int (nI 0), .int (nI 8), .int (nI 0), .int (nI 0), .int (nI 0), .int (nI 0)])), (a, .inl (kA 2, 4, .inr (.inr (.inr (.inr (fun _ => none))))))]) hD hS hA [0, 1] rfl
  refine vx_callr (vx_runV (As := [.int x0]) (rest := []) ⟨hx, hb, hml, hown, hts⟩ (c_X6_existing_e l D kA z hfl h0 a x0  _) (cwV 1 hts gX6_sector_X6_existing rfl rfl rfl (by decide +kernel) ⟨Nat.le_of_ble_eq_true rfl, Nat.le_of_ble_eq_true rfl⟩) (fPv hK hP hD hS hG hF [0, 1] (by decide) rfl 0 7 rfl rfl rfl) rfl rfl hl.1 rfl (lv_room (Nat.le_of_ble_eq_true rfl)) dX6_sector_2 ⟨Nat.le_of_ble_eq_true rfl, Nat.le_of_ble_eq_true rfl⟩) hS (fun q _ h => hF q h) hF (fun q _ h => hF q h) (fun E ce q9 u9 t H locs ht hvm hw hB hz1 hk1 hS hc9 hv9 hcl9 => ?_) (fun u1 ra9 t H locs ht hvm hw hB hz1 hk1 hS => ?_)
  ·
    obtain ⟨E9, w1⟩ := u9
    obtain ⟨e9, hB⟩ := hB
    have e9 : E9 = E := e9
    subst e9
    obtain ⟨hP, hD⟩ := fJ (wr := []) hP hD [0, 1] [] rfl rfl (by decide) (by decide) hk1 hF ht hB
    obtain ⟨hE9, rfl⟩ := hw
    try dsimp only at hE9
    have hP : va_P D vwCl [(h0, .inr (7, [.ref a, .int (nI 0), .int (nI 8), .int (nI 0), .int (nI 0), .int (nI 0), .int (nI 0)])), (a, .inl (kA 2, 4, .inr (.inr (.inr (.inr (fun _ => none))))))] H := hP
    have hD : va_D A [(h0, .inr (7, [.ref a, .int (nI 0), .int (nI 8), .int (nI 0), .int (nI 0), .int (nI 0), .int (nI 0)])), (a, .inl (kA 2, 4, .inr (.inr (.inr (.inr (fun _ => none))))))] := hD
    exact vx_out (fun x9 h9 => (hxt x9 h9).elim) hlocks hc9 hv9 hcl9 (xEnd0 hK hP hD hS ⟨hE9, rfl⟩) hS.2.2 (Nat.le_of_ble_eq_true rfl) (Nat.le_of_ble_eq_true rfl)
  · exact hw.elim

set_option maxHeartbeats 4000000 in
set_option maxRecDepth 100000 in
theorem c_X6_weak_e (l : Launch) (D : va_G) (kA : Nat → ClassId) (z : Nat) (hfl : l.stackTraces = false) (h0 a : Nat) (x0 x1 x2 : Int32)  : xI l D (tyL kA) z yX6_weak wsX6_weak ({ frames := 7, cells := 1, slots := 6, locals := 120 }) [.ref h0, .int x0, .int x1, .int x2] [(h0, .inr (7, [.ref a, .int (nI 0), .int (nI 8), .int (nI 0), .int (nI 0), .int (nI 0), .int (nI 0)])), (a, .inl (kA 2, 4, .inr (.inr (.inr (.inr (fun _ => none))))))] (fun _ _ => False) (fun E w => (E = "java/lang/IndexOutOfBoundsException") ∧ w = [(h0, .inr (7, [.ref a, .int (nI 0), .int (nI 8), .int (nI 0), .int (nI 0), .int (nI 0), .int (nI 0)])), (a, .inl (kA 2, 4, .inr (.inr (.inr (.inr (fun _ => none))))))]) := by
  refine ofxI (cc := cX6_weak) (maxL := 6) RX6 rfl (by decide +kernel) rfl (Nat.le_of_ble_eq_true rfl) ?_
  intro p e s m args below meth c A ls hxt hE
  obtain ⟨hx, hb, hr, hml, hts, hown, hlocks, hA, hS, hP, hK, hD, hG, hl⟩ := hE
  have hl : lv_has ls 6 [(0, .ref h0), (1, .int x0), (2, .int x1), (3, .int x2)] := hl
  have hH : s.heap = s.heap := rfl
  refine lv_aload_n hx hb dX6_weak_0 rfl (lv_at hl 0 rfl) ?_
  refine lv_iload_n hx hb dX6_weak_1 rfl (lv_at hl 1 rfl) ?_
  have hF := va_free (wc := [(h0, .inr (7, [.ref a, .int (nI 0), .int (nI 8), .int (nI 0), .int (nI 0), .int (nI 0), .int (nI 0)])), (a, .inl (kA 2, 4, .inr (.inr (.inr (.inr (fun _ => none))))))]) hD hS hA [0, 1] rfl
  refine vx_callr (vx_runV (As := [.int x0]) (rest := []) ⟨hx, hb, hml, hown, hts⟩ (c_X6_existing_e l D kA z hfl h0 a x0  _) (cwV 1 hts gX6_weak_X6_existing rfl rfl rfl (by decide +kernel) ⟨Nat.le_of_ble_eq_true rfl, Nat.le_of_ble_eq_true rfl⟩) (fPv hK hP hD hS hG hF [0, 1] (by decide) rfl 0 7 rfl rfl rfl) rfl rfl hl.1 rfl (lv_room (Nat.le_of_ble_eq_true rfl)) dX6_weak_2 ⟨Nat.le_of_ble_eq_true rfl, Nat.le_of_ble_eq_true rfl⟩) hS (fun q _ h => hF q h) hF (fun q _ h => hF q h) (fun E ce q9 u9 t H locs ht hvm hw hB hz1 hk1 hS hc9 hv9 hcl9 => ?_) (fun u1 ra9 t H locs ht hvm hw hB hz1 hk1 hS => ?_)
  ·
    obtain ⟨E9, w1⟩ := u9
    obtain ⟨e9, hB⟩ := hB
    have e9 : E9 = E := e9
    subst e9
    obtain ⟨hP, hD⟩ := fJ (wr := []) hP hD [0, 1] [] rfl rfl (by decide) (by decide) hk1 hF ht hB
    obtain ⟨hE9, rfl⟩ := hw
    try dsimp only at hE9
    have hP : va_P D vwCl [(h0, .inr (7, [.ref a, .int (nI 0), .int (nI 8), .int (nI 0), .int (nI 0), .int (nI 0), .int (nI 0)])), (a, .inl (kA 2, 4, .inr (.inr (.inr (.inr (fun _ => none))))))] H := hP
    have hD : va_D A [(h0, .inr (7, [.ref a, .int (nI 0), .int (nI 8), .int (nI 0), .int (nI 0), .int (nI 0), .int (nI 0)])), (a, .inl (kA 2, 4, .inr (.inr (.inr (.inr (fun _ => none))))))] := hD
    exact vx_out (fun x9 h9 => (hxt x9 h9).elim) hlocks hc9 hv9 hcl9 (xEnd0 hK hP hD hS ⟨hE9, rfl⟩) hS.2.2 (Nat.le_of_ble_eq_true rfl) (Nat.le_of_ble_eq_true rfl)
  · exact hw.elim

set_option maxHeartbeats 4000000 in
set_option maxRecDepth 100000 in
theorem c_X6_dirt_e (l : Launch) (D : va_G) (kA : Nat → ClassId) (z : Nat) (hfl : l.stackTraces = false) (h0 a : Nat) (x0 x1 x2 : Int32)  : xI l D (tyL kA) z yX6_dirt wsX6_dirt ({ frames := 7, cells := 1, slots := 6, locals := 120 }) [.ref h0, .int x0, .int x1, .int x2] [(h0, .inr (7, [.ref a, .int (nI 0), .int (nI 8), .int (nI 0), .int (nI 0), .int (nI 0), .int (nI 0)])), (a, .inl (kA 2, 4, .inr (.inr (.inr (.inr (fun _ => none))))))] (fun _ _ => False) (fun E w => (E = "java/lang/IndexOutOfBoundsException") ∧ w = [(h0, .inr (7, [.ref a, .int (nI 0), .int (nI 8), .int (nI 0), .int (nI 0), .int (nI 0), .int (nI 0)])), (a, .inl (kA 2, 4, .inr (.inr (.inr (.inr (fun _ => none))))))]) := by
  refine ofxI (cc := cX6_dirt) (maxL := 5) RX6 rfl (by decide +kernel) rfl (Nat.le_of_ble_eq_true rfl) ?_
  intro p e s m args below meth c A ls hxt hE
  obtain ⟨hx, hb, hr, hml, hts, hown, hlocks, hA, hS, hP, hK, hD, hG, hl⟩ := hE
  have hl : lv_has ls 5 [(0, .ref h0), (1, .int x0), (2, .int x1), (3, .int x2)] := hl
  have hH : s.heap = s.heap := rfl
  refine lv_aload_n hx hb dX6_dirt_0 rfl (lv_at hl 0 rfl) ?_
  refine lv_iload_n hx hb dX6_dirt_1 rfl (lv_at hl 1 rfl) ?_
  have hF := va_free (wc := [(h0, .inr (7, [.ref a, .int (nI 0), .int (nI 8), .int (nI 0), .int (nI 0), .int (nI 0), .int (nI 0)])), (a, .inl (kA 2, 4, .inr (.inr (.inr (.inr (fun _ => none))))))]) hD hS hA [0, 1] rfl
  refine vx_callr (vx_runV (As := [.int x0]) (rest := []) ⟨hx, hb, hml, hown, hts⟩ (c_X6_existing_e l D kA z hfl h0 a x0  _) (cwV 1 hts gX6_dirt_X6_existing rfl rfl rfl (by decide +kernel) ⟨Nat.le_of_ble_eq_true rfl, Nat.le_of_ble_eq_true rfl⟩) (fPv hK hP hD hS hG hF [0, 1] (by decide) rfl 0 7 rfl rfl rfl) rfl rfl hl.1 rfl (lv_room (Nat.le_of_ble_eq_true rfl)) dX6_dirt_2 ⟨Nat.le_of_ble_eq_true rfl, Nat.le_of_ble_eq_true rfl⟩) hS (fun q _ h => hF q h) hF (fun q _ h => hF q h) (fun E ce q9 u9 t H locs ht hvm hw hB hz1 hk1 hS hc9 hv9 hcl9 => ?_) (fun u1 ra9 t H locs ht hvm hw hB hz1 hk1 hS => ?_)
  ·
    obtain ⟨E9, w1⟩ := u9
    obtain ⟨e9, hB⟩ := hB
    have e9 : E9 = E := e9
    subst e9
    obtain ⟨hP, hD⟩ := fJ (wr := []) hP hD [0, 1] [] rfl rfl (by decide) (by decide) hk1 hF ht hB
    obtain ⟨hE9, rfl⟩ := hw
    try dsimp only at hE9
    have hP : va_P D vwCl [(h0, .inr (7, [.ref a, .int (nI 0), .int (nI 8), .int (nI 0), .int (nI 0), .int (nI 0), .int (nI 0)])), (a, .inl (kA 2, 4, .inr (.inr (.inr (.inr (fun _ => none))))))] H := hP
    have hD : va_D A [(h0, .inr (7, [.ref a, .int (nI 0), .int (nI 8), .int (nI 0), .int (nI 0), .int (nI 0), .int (nI 0)])), (a, .inl (kA 2, 4, .inr (.inr (.inr (.inr (fun _ => none))))))] := hD
    exact vx_out (fun x9 h9 => (hxt x9 h9).elim) hlocks hc9 hv9 hcl9 (xEnd0 hK hP hD hS ⟨hE9, rfl⟩) hS.2.2 (Nat.le_of_ble_eq_true rfl) (Nat.le_of_ble_eq_true rfl)
  · exact hw.elim

set_option maxHeartbeats 4000000 in
set_option maxRecDepth 100000 in
theorem c_X6_clean_e (l : Launch) (D : va_G) (kA : Nat → ClassId) (z : Nat) (hfl : l.stackTraces = false) (h0 a : Nat) (x0 : Int32)  : xI l D (tyL kA) z yX6_clean wsX6_clean ({ frames := 7, cells := 1, slots := 6, locals := 120 }) [.ref h0, .int x0] [(h0, .inr (7, [.ref a, .int (nI 0), .int (nI 8), .int (nI 0), .int (nI 0), .int (nI 0), .int (nI 0)])), (a, .inl (kA 2, 4, .inr (.inr (.inr (.inr (fun _ => none))))))] (fun _ _ => False) (fun E w => (E = "java/lang/IndexOutOfBoundsException") ∧ w = [(h0, .inr (7, [.ref a, .int (nI 0), .int (nI 8), .int (nI 0), .int (nI 0), .int (nI 0), .int (nI 0)])), (a, .inl (kA 2, 4, .inr (.inr (.inr (.inr (fun _ => none))))))]) := by
  refine ofxI (cc := cX6_clean) (maxL := 3) RX6 rfl (by decide +kernel) rfl (Nat.le_of_ble_eq_true rfl) ?_
  intro p e s m args below meth c A ls hxt hE
  obtain ⟨hx, hb, hr, hml, hts, hown, hlocks, hA, hS, hP, hK, hD, hG, hl⟩ := hE
  have hl : lv_has ls 3 [(0, .ref h0), (1, .int x0)] := hl
  have hH : s.heap = s.heap := rfl
  refine lv_aload_n hx hb dX6_clean_0 rfl (lv_at hl 0 rfl) ?_
  refine lv_iload_n hx hb dX6_clean_1 rfl (lv_at hl 1 rfl) ?_
  have hF := va_free (wc := [(h0, .inr (7, [.ref a, .int (nI 0), .int (nI 8), .int (nI 0), .int (nI 0), .int (nI 0), .int (nI 0)])), (a, .inl (kA 2, 4, .inr (.inr (.inr (.inr (fun _ => none))))))]) hD hS hA [0, 1] rfl
  refine vx_callr (vx_runV (As := [.int x0]) (rest := []) ⟨hx, hb, hml, hown, hts⟩ (c_X6_existing_e l D kA z hfl h0 a x0  _) (cwV 1 hts gX6_clean_X6_existing rfl rfl rfl (by decide +kernel) ⟨Nat.le_of_ble_eq_true rfl, Nat.le_of_ble_eq_true rfl⟩) (fPv hK hP hD hS hG hF [0, 1] (by decide) rfl 0 7 rfl rfl rfl) rfl rfl hl.1 rfl (lv_room (Nat.le_of_ble_eq_true rfl)) dX6_clean_2 ⟨Nat.le_of_ble_eq_true rfl, Nat.le_of_ble_eq_true rfl⟩) hS (fun q _ h => hF q h) hF (fun q _ h => hF q h) (fun E ce q9 u9 t H locs ht hvm hw hB hz1 hk1 hS hc9 hv9 hcl9 => ?_) (fun u1 ra9 t H locs ht hvm hw hB hz1 hk1 hS => ?_)
  ·
    obtain ⟨E9, w1⟩ := u9
    obtain ⟨e9, hB⟩ := hB
    have e9 : E9 = E := e9
    subst e9
    obtain ⟨hP, hD⟩ := fJ (wr := []) hP hD [0, 1] [] rfl rfl (by decide) (by decide) hk1 hF ht hB
    obtain ⟨hE9, rfl⟩ := hw
    try dsimp only at hE9
    have hP : va_P D vwCl [(h0, .inr (7, [.ref a, .int (nI 0), .int (nI 8), .int (nI 0), .int (nI 0), .int (nI 0), .int (nI 0)])), (a, .inl (kA 2, 4, .inr (.inr (.inr (.inr (fun _ => none))))))] H := hP
    have hD : va_D A [(h0, .inr (7, [.ref a, .int (nI 0), .int (nI 8), .int (nI 0), .int (nI 0), .int (nI 0), .int (nI 0)])), (a, .inl (kA 2, 4, .inr (.inr (.inr (.inr (fun _ => none))))))] := hD
    exact vx_out (fun x9 h9 => (hxt x9 h9).elim) hlocks hc9 hv9 hcl9 (xEnd0 hK hP hD hS ⟨hE9, rfl⟩) hS.2.2 (Nat.le_of_ble_eq_true rfl) (Nat.le_of_ble_eq_true rfl)
  · exact hw.elim

set_option maxHeartbeats 4000000 in
set_option maxRecDepth 100000 in
theorem c_X6_read_e (l : Launch) (D : va_G) (kA : Nat → ClassId) (z : Nat) (hfl : l.stackTraces = false) (h0 a : Nat) (x0 : Int32)  : xI l D (tyL kA) z yX6_read wsX6_read ({ frames := 7, cells := 1, slots := 6, locals := 120 }) [.ref h0, .int x0] [(h0, .inr (7, [.ref a, .int (nI 0), .int (nI 8), .int (nI 0), .int (nI 0), .int (nI 0), .int (nI 0)])), (a, .inl (kA 2, 4, .inr (.inr (.inr (.inr (fun _ => none))))))] (fun _ _ => False) (fun E w => (E = "java/lang/IndexOutOfBoundsException") ∧ w = [(h0, .inr (7, [.ref a, .int (nI 0), .int (nI 8), .int (nI 0), .int (nI 0), .int (nI 0), .int (nI 0)])), (a, .inl (kA 2, 4, .inr (.inr (.inr (.inr (fun _ => none))))))]) := by
  refine ofxI (cc := cX6_read) (maxL := 3) RX6 rfl (by decide +kernel) rfl (Nat.le_of_ble_eq_true rfl) ?_
  intro p e s m args below meth c A ls hxt hE
  obtain ⟨hx, hb, hr, hml, hts, hown, hlocks, hA, hS, hP, hK, hD, hG, hl⟩ := hE
  have hl : lv_has ls 3 [(0, .ref h0), (1, .int x0)] := hl
  have hH : s.heap = s.heap := rfl
  refine lv_aload_n hx hb dX6_read_0 rfl (lv_at hl 0 rfl) ?_
  refine lv_iload_n hx hb dX6_read_1 rfl (lv_at hl 1 rfl) ?_
  have hF := va_free (wc := [(h0, .inr (7, [.ref a, .int (nI 0), .int (nI 8), .int (nI 0), .int (nI 0), .int (nI 0), .int (nI 0)])), (a, .inl (kA 2, 4, .inr (.inr (.inr (.inr (fun _ => none))))))]) hD hS hA [0, 1] rfl
  refine vx_callr (vx_runV (As := [.int x0]) (rest := []) ⟨hx, hb, hml, hown, hts⟩ (c_X6_existing_e l D kA z hfl h0 a x0  _) (cwV 1 hts gX6_read_X6_existing rfl rfl rfl (by decide +kernel) ⟨Nat.le_of_ble_eq_true rfl, Nat.le_of_ble_eq_true rfl⟩) (fPv hK hP hD hS hG hF [0, 1] (by decide) rfl 0 7 rfl rfl rfl) rfl rfl hl.1 rfl (lv_room (Nat.le_of_ble_eq_true rfl)) dX6_read_2 ⟨Nat.le_of_ble_eq_true rfl, Nat.le_of_ble_eq_true rfl⟩) hS (fun q _ h => hF q h) hF (fun q _ h => hF q h) (fun E ce q9 u9 t H locs ht hvm hw hB hz1 hk1 hS hc9 hv9 hcl9 => ?_) (fun u1 ra9 t H locs ht hvm hw hB hz1 hk1 hS => ?_)
  ·
    obtain ⟨E9, w1⟩ := u9
    obtain ⟨e9, hB⟩ := hB
    have e9 : E9 = E := e9
    subst e9
    obtain ⟨hP, hD⟩ := fJ (wr := []) hP hD [0, 1] [] rfl rfl (by decide) (by decide) hk1 hF ht hB
    obtain ⟨hE9, rfl⟩ := hw
    try dsimp only at hE9
    have hP : va_P D vwCl [(h0, .inr (7, [.ref a, .int (nI 0), .int (nI 8), .int (nI 0), .int (nI 0), .int (nI 0), .int (nI 0)])), (a, .inl (kA 2, 4, .inr (.inr (.inr (.inr (fun _ => none))))))] H := hP
    have hD : va_D A [(h0, .inr (7, [.ref a, .int (nI 0), .int (nI 8), .int (nI 0), .int (nI 0), .int (nI 0), .int (nI 0)])), (a, .inl (kA 2, 4, .inr (.inr (.inr (.inr (fun _ => none))))))] := hD
    exact vx_out (fun x9 h9 => (hxt x9 h9).elim) hlocks hc9 hv9 hcl9 (xEnd0 hK hP hD hS ⟨hE9, rfl⟩) hS.2.2 (Nat.le_of_ble_eq_true rfl) (Nat.le_of_ble_eq_true rfl)
  · exact hw.elim

set_option maxHeartbeats 4000000 in
set_option maxRecDepth 100000 in
theorem c_X6_copy_e (l : Launch) (D : va_G) (kA : Nat → ClassId) (z : Nat) (hfl : l.stackTraces = false) (h0 a : Nat) (x0 x1 x2 : Int32)  : xI l D (tyL kA) z yX6_copy wsX6_copy ({ frames := 7, cells := 1, slots := 6, locals := 120 }) [.ref h0, .int x0, .int x1, .int x2] [(h0, .inr (7, [.ref a, .int (nI 0), .int (nI 8), .int (nI 0), .int (nI 0), .int (nI 0), .int (nI 0)])), (a, .inl (kA 2, 4, .inr (.inr (.inr (.inr (fun _ => none))))))] (fun _ _ => False) (fun E w => (E = "java/lang/IndexOutOfBoundsException") ∧ w = [(h0, .inr (7, [.ref a, .int (nI 0), .int (nI 8), .int (nI 0), .int (nI 0), .int (nI 0), .int (nI 0)])), (a, .inl (kA 2, 4, .inr (.inr (.inr (.inr (fun _ => none))))))]) := by
  refine ofxI (cc := cX6_copy) (maxL := 6) RX6 rfl (by decide +kernel) rfl (Nat.le_of_ble_eq_true rfl) ?_
  intro p e s m args below meth c A ls hxt hE
  obtain ⟨hx, hb, hr, hml, hts, hown, hlocks, hA, hS, hP, hK, hD, hG, hl⟩ := hE
  have hl : lv_has ls 6 [(0, .ref h0), (1, .int x0), (2, .int x1), (3, .int x2)] := hl
  have hH : s.heap = s.heap := rfl
  refine lv_aload_n hx hb dX6_copy_0 rfl (lv_at hl 0 rfl) ?_
  refine lv_iload_n hx hb dX6_copy_1 rfl (lv_at hl 1 rfl) ?_
  have hF := va_free (wc := [(h0, .inr (7, [.ref a, .int (nI 0), .int (nI 8), .int (nI 0), .int (nI 0), .int (nI 0), .int (nI 0)])), (a, .inl (kA 2, 4, .inr (.inr (.inr (.inr (fun _ => none))))))]) hD hS hA [0, 1] rfl
  refine vx_callr (vx_runV (As := [.int x0]) (rest := []) ⟨hx, hb, hml, hown, hts⟩ (c_X6_existing_e l D kA z hfl h0 a x0  _) (cwV 1 hts gX6_copy_X6_existing rfl rfl rfl (by decide +kernel) ⟨Nat.le_of_ble_eq_true rfl, Nat.le_of_ble_eq_true rfl⟩) (fPv hK hP hD hS hG hF [0, 1] (by decide) rfl 0 7 rfl rfl rfl) rfl rfl hl.1 rfl (lv_room (Nat.le_of_ble_eq_true rfl)) dX6_copy_2 ⟨Nat.le_of_ble_eq_true rfl, Nat.le_of_ble_eq_true rfl⟩) hS (fun q _ h => hF q h) hF (fun q _ h => hF q h) (fun E ce q9 u9 t H locs ht hvm hw hB hz1 hk1 hS hc9 hv9 hcl9 => ?_) (fun u1 ra9 t H locs ht hvm hw hB hz1 hk1 hS => ?_)
  ·
    obtain ⟨E9, w1⟩ := u9
    obtain ⟨e9, hB⟩ := hB
    have e9 : E9 = E := e9
    subst e9
    obtain ⟨hP, hD⟩ := fJ (wr := []) hP hD [0, 1] [] rfl rfl (by decide) (by decide) hk1 hF ht hB
    obtain ⟨hE9, rfl⟩ := hw
    try dsimp only at hE9
    have hP : va_P D vwCl [(h0, .inr (7, [.ref a, .int (nI 0), .int (nI 8), .int (nI 0), .int (nI 0), .int (nI 0), .int (nI 0)])), (a, .inl (kA 2, 4, .inr (.inr (.inr (.inr (fun _ => none))))))] H := hP
    have hD : va_D A [(h0, .inr (7, [.ref a, .int (nI 0), .int (nI 8), .int (nI 0), .int (nI 0), .int (nI 0), .int (nI 0)])), (a, .inl (kA 2, 4, .inr (.inr (.inr (.inr (fun _ => none))))))] := hD
    exact vx_out (fun x9 h9 => (hxt x9 h9).elim) hlocks hc9 hv9 hcl9 (xEnd0 hK hP hD hS ⟨hE9, rfl⟩) hS.2.2 (Nat.le_of_ble_eq_true rfl) (Nat.le_of_ble_eq_true rfl)
  · exact hw.elim

set_option maxHeartbeats 4000000 in
set_option maxRecDepth 100000 in
theorem c_X6_ofCell_e (l : Launch) (D : va_G) (kA : Nat → ClassId) (z : Nat) (hfl : l.stackTraces = false) (h0 a : Nat) (x0 x1 x2 : Int32)  : xI l D (tyL kA) z yX6_ofCell wsX6_ofCell ({ frames := 7, cells := 1, slots := 6, locals := 120 }) [.ref h0, .int x0, .int x1, .int x2] [(h0, .inr (7, [.ref a, .int (nI 0), .int (nI 8), .int (nI 0), .int (nI 0), .int (nI 0), .int (nI 0)])), (a, .inl (kA 2, 4, .inr (.inr (.inr (.inr (fun _ => none))))))] (fun _ _ => False) (fun E w => (E = "java/lang/IndexOutOfBoundsException") ∧ w = [(h0, .inr (7, [.ref a, .int (nI 0), .int (nI 8), .int (nI 0), .int (nI 0), .int (nI 0), .int (nI 0)])), (a, .inl (kA 2, 4, .inr (.inr (.inr (.inr (fun _ => none))))))]) := by
  refine ofxI (cc := cX6_ofCell) (maxL := 5) RX6 rfl (by decide +kernel) rfl (Nat.le_of_ble_eq_true rfl) ?_
  intro p e s m args below meth c A ls hxt hE
  obtain ⟨hx, hb, hr, hml, hts, hown, hlocks, hA, hS, hP, hK, hD, hG, hl⟩ := hE
  have hl : lv_has ls 5 [(0, .ref h0), (1, .int x0), (2, .int x1), (3, .int x2)] := hl
  have hH : s.heap = s.heap := rfl
  refine lv_aload_n hx hb dX6_ofCell_0 rfl (lv_at hl 0 rfl) ?_
  refine lv_iload_n hx hb dX6_ofCell_1 rfl (lv_at hl 1 rfl) ?_
  have hF := va_free (wc := [(h0, .inr (7, [.ref a, .int (nI 0), .int (nI 8), .int (nI 0), .int (nI 0), .int (nI 0), .int (nI 0)])), (a, .inl (kA 2, 4, .inr (.inr (.inr (.inr (fun _ => none))))))]) hD hS hA [0, 1] rfl
  refine vx_callr (vx_runV (As := [.int x0]) (rest := []) ⟨hx, hb, hml, hown, hts⟩ (c_X6_existing_e l D kA z hfl h0 a x0  _) (cwV 1 hts gX6_ofCell_X6_existing rfl rfl rfl (by decide +kernel) ⟨Nat.le_of_ble_eq_true rfl, Nat.le_of_ble_eq_true rfl⟩) (fPv hK hP hD hS hG hF [0, 1] (by decide) rfl 0 7 rfl rfl rfl) rfl rfl hl.1 rfl (lv_room (Nat.le_of_ble_eq_true rfl)) dX6_ofCell_2 ⟨Nat.le_of_ble_eq_true rfl, Nat.le_of_ble_eq_true rfl⟩) hS (fun q _ h => hF q h) hF (fun q _ h => hF q h) (fun E ce q9 u9 t H locs ht hvm hw hB hz1 hk1 hS hc9 hv9 hcl9 => ?_) (fun u1 ra9 t H locs ht hvm hw hB hz1 hk1 hS => ?_)
  ·
    obtain ⟨E9, w1⟩ := u9
    obtain ⟨e9, hB⟩ := hB
    have e9 : E9 = E := e9
    subst e9
    obtain ⟨hP, hD⟩ := fJ (wr := []) hP hD [0, 1] [] rfl rfl (by decide) (by decide) hk1 hF ht hB
    obtain ⟨hE9, rfl⟩ := hw
    try dsimp only at hE9
    have hP : va_P D vwCl [(h0, .inr (7, [.ref a, .int (nI 0), .int (nI 8), .int (nI 0), .int (nI 0), .int (nI 0), .int (nI 0)])), (a, .inl (kA 2, 4, .inr (.inr (.inr (.inr (fun _ => none))))))] H := hP
    have hD : va_D A [(h0, .inr (7, [.ref a, .int (nI 0), .int (nI 8), .int (nI 0), .int (nI 0), .int (nI 0), .int (nI 0)])), (a, .inl (kA 2, 4, .inr (.inr (.inr (.inr (fun _ => none))))))] := hD
    exact vx_out (fun x9 h9 => (hxt x9 h9).elim) hlocks hc9 hv9 hcl9 (xEnd0 hK hP hD hS ⟨hE9, rfl⟩) hS.2.2 (Nat.le_of_ble_eq_true rfl) (Nat.le_of_ble_eq_true rfl)
  · exact hw.elim

set_option maxHeartbeats 4000000 in
set_option maxRecDepth 100000 in
theorem c_X6_ofTrack_e (l : Launch) (D : va_G) (kA : Nat → ClassId) (z : Nat) (hfl : l.stackTraces = false) (h0 a : Nat) (x0 x1 : Int32)  : xI l D (tyL kA) z yX6_ofTrack wsX6_ofTrack ({ frames := 7, cells := 1, slots := 6, locals := 120 }) [.ref h0, .int x0, .int x1] [(h0, .inr (7, [.ref a, .int (nI 0), .int (nI 8), .int (nI 0), .int (nI 0), .int (nI 0), .int (nI 0)])), (a, .inl (kA 2, 4, .inr (.inr (.inr (.inr (fun _ => none))))))] (fun _ _ => False) (fun E w => (E = "java/lang/IndexOutOfBoundsException") ∧ w = [(h0, .inr (7, [.ref a, .int (nI 0), .int (nI 8), .int (nI 0), .int (nI 0), .int (nI 0), .int (nI 0)])), (a, .inl (kA 2, 4, .inr (.inr (.inr (.inr (fun _ => none))))))]) := by
  refine ofxI (cc := cX6_ofTrack) (maxL := 4) RX6 rfl (by decide +kernel) rfl (Nat.le_of_ble_eq_true rfl) ?_
  intro p e s m args below meth c A ls hxt hE
  obtain ⟨hx, hb, hr, hml, hts, hown, hlocks, hA, hS, hP, hK, hD, hG, hl⟩ := hE
  have hl : lv_has ls 4 [(0, .ref h0), (1, .int x0), (2, .int x1)] := hl
  have hH : s.heap = s.heap := rfl
  refine lv_aload_n hx hb dX6_ofTrack_0 rfl (lv_at hl 0 rfl) ?_
  refine lv_iload_n hx hb dX6_ofTrack_1 rfl (lv_at hl 1 rfl) ?_
  have hF := va_free (wc := [(h0, .inr (7, [.ref a, .int (nI 0), .int (nI 8), .int (nI 0), .int (nI 0), .int (nI 0), .int (nI 0)])), (a, .inl (kA 2, 4, .inr (.inr (.inr (.inr (fun _ => none))))))]) hD hS hA [0, 1] rfl
  refine vx_callr (vx_runV (As := [.int x0]) (rest := []) ⟨hx, hb, hml, hown, hts⟩ (c_X6_existing_e l D kA z hfl h0 a x0  _) (cwV 1 hts gX6_ofTrack_X6_existing rfl rfl rfl (by decide +kernel) ⟨Nat.le_of_ble_eq_true rfl, Nat.le_of_ble_eq_true rfl⟩) (fPv hK hP hD hS hG hF [0, 1] (by decide) rfl 0 7 rfl rfl rfl) rfl rfl hl.1 rfl (lv_room (Nat.le_of_ble_eq_true rfl)) dX6_ofTrack_2 ⟨Nat.le_of_ble_eq_true rfl, Nat.le_of_ble_eq_true rfl⟩) hS (fun q _ h => hF q h) hF (fun q _ h => hF q h) (fun E ce q9 u9 t H locs ht hvm hw hB hz1 hk1 hS hc9 hv9 hcl9 => ?_) (fun u1 ra9 t H locs ht hvm hw hB hz1 hk1 hS => ?_)
  ·
    obtain ⟨E9, w1⟩ := u9
    obtain ⟨e9, hB⟩ := hB
    have e9 : E9 = E := e9
    subst e9
    obtain ⟨hP, hD⟩ := fJ (wr := []) hP hD [0, 1] [] rfl rfl (by decide) (by decide) hk1 hF ht hB
    obtain ⟨hE9, rfl⟩ := hw
    try dsimp only at hE9
    have hP : va_P D vwCl [(h0, .inr (7, [.ref a, .int (nI 0), .int (nI 8), .int (nI 0), .int (nI 0), .int (nI 0), .int (nI 0)])), (a, .inl (kA 2, 4, .inr (.inr (.inr (.inr (fun _ => none))))))] H := hP
    have hD : va_D A [(h0, .inr (7, [.ref a, .int (nI 0), .int (nI 8), .int (nI 0), .int (nI 0), .int (nI 0), .int (nI 0)])), (a, .inl (kA 2, 4, .inr (.inr (.inr (.inr (fun _ => none))))))] := hD
    exact vx_out (fun x9 h9 => (hxt x9 h9).elim) hlocks hc9 hv9 hcl9 (xEnd0 hK hP hD hS ⟨hE9, rfl⟩) hS.2.2 (Nat.le_of_ble_eq_true rfl) (Nat.le_of_ble_eq_true rfl)
  · exact hw.elim

set_option maxHeartbeats 4000000 in
set_option maxRecDepth 100000 in
theorem c_X6_vote_e (l : Launch) (D : va_G) (kA : Nat → ClassId) (z : Nat) (hfl : l.stackTraces = false) (h0 a : Nat) (x0 x1 : Int32)  : xI l D (tyL kA) z yX6_vote wsX6_vote ({ frames := 7, cells := 1, slots := 6, locals := 120 }) [.ref h0, .int x0, .int x1] [(h0, .inr (7, [.ref a, .int (nI 0), .int (nI 8), .int (nI 0), .int (nI 0), .int (nI 0), .int (nI 0)])), (a, .inl (kA 2, 4, .inr (.inr (.inr (.inr (fun _ => none))))))] (fun _ _ => False) (fun E w => (E = "java/lang/IndexOutOfBoundsException") ∧ w = [(h0, .inr (7, [.ref a, .int (nI 0), .int (nI 8), .int (nI 0), .int (nI 0), .int (nI 0), .int (nI 0)])), (a, .inl (kA 2, 4, .inr (.inr (.inr (.inr (fun _ => none))))))]) := by
  refine ofxI (cc := cX6_vote) (maxL := 4) RX6 rfl (by decide +kernel) rfl (Nat.le_of_ble_eq_true rfl) ?_
  intro p e s m args below meth c A ls hxt hE
  obtain ⟨hx, hb, hr, hml, hts, hown, hlocks, hA, hS, hP, hK, hD, hG, hl⟩ := hE
  have hl : lv_has ls 4 [(0, .ref h0), (1, .int x0), (2, .int x1)] := hl
  have hH : s.heap = s.heap := rfl
  refine lv_aload_n hx hb dX6_vote_0 rfl (lv_at hl 0 rfl) ?_
  refine lv_iload_n hx hb dX6_vote_1 rfl (lv_at hl 1 rfl) ?_
  have hF := va_free (wc := [(h0, .inr (7, [.ref a, .int (nI 0), .int (nI 8), .int (nI 0), .int (nI 0), .int (nI 0), .int (nI 0)])), (a, .inl (kA 2, 4, .inr (.inr (.inr (.inr (fun _ => none))))))]) hD hS hA [0, 1] rfl
  refine vx_callr (vx_runV (As := [.int x0]) (rest := []) ⟨hx, hb, hml, hown, hts⟩ (c_X6_existing_e l D kA z hfl h0 a x0  _) (cwV 1 hts gX6_vote_X6_existing rfl rfl rfl (by decide +kernel) ⟨Nat.le_of_ble_eq_true rfl, Nat.le_of_ble_eq_true rfl⟩) (fPv hK hP hD hS hG hF [0, 1] (by decide) rfl 0 7 rfl rfl rfl) rfl rfl hl.1 rfl (lv_room (Nat.le_of_ble_eq_true rfl)) dX6_vote_2 ⟨Nat.le_of_ble_eq_true rfl, Nat.le_of_ble_eq_true rfl⟩) hS (fun q _ h => hF q h) hF (fun q _ h => hF q h) (fun E ce q9 u9 t H locs ht hvm hw hB hz1 hk1 hS hc9 hv9 hcl9 => ?_) (fun u1 ra9 t H locs ht hvm hw hB hz1 hk1 hS => ?_)
  ·
    obtain ⟨E9, w1⟩ := u9
    obtain ⟨e9, hB⟩ := hB
    have e9 : E9 = E := e9
    subst e9
    obtain ⟨hP, hD⟩ := fJ (wr := []) hP hD [0, 1] [] rfl rfl (by decide) (by decide) hk1 hF ht hB
    obtain ⟨hE9, rfl⟩ := hw
    try dsimp only at hE9
    have hP : va_P D vwCl [(h0, .inr (7, [.ref a, .int (nI 0), .int (nI 8), .int (nI 0), .int (nI 0), .int (nI 0), .int (nI 0)])), (a, .inl (kA 2, 4, .inr (.inr (.inr (.inr (fun _ => none))))))] H := hP
    have hD : va_D A [(h0, .inr (7, [.ref a, .int (nI 0), .int (nI 8), .int (nI 0), .int (nI 0), .int (nI 0), .int (nI 0)])), (a, .inl (kA 2, 4, .inr (.inr (.inr (.inr (fun _ => none))))))] := hD
    exact vx_out (fun x9 h9 => (hxt x9 h9).elim) hlocks hc9 hv9 hcl9 (xEnd0 hK hP hD hS ⟨hE9, rfl⟩) hS.2.2 (Nat.le_of_ble_eq_true rfl) (Nat.le_of_ble_eq_true rfl)
  · exact hw.elim

set_option maxHeartbeats 4000000 in
set_option maxRecDepth 100000 in
theorem c_X6_turn_e (l : Launch) (D : va_G) (kA : Nat → ClassId) (z : Nat) (hfl : l.stackTraces = false) (h0 a : Nat) (x0 x1 x2 : Int32)  : xI l D (tyL kA) z yX6_turn wsX6_turn ({ frames := 8, cells := 1, slots := 6, locals := 150 }) [.ref h0, .int x0, .int x1, .int x2] [(h0, .inr (7, [.ref a, .int (nI 0), .int (nI 8), .int (nI 0), .int (nI 0), .int (nI 0), .int (nI 0)])), (a, .inl (kA 2, 4, .inr (.inr (.inr (.inr (fun _ => none))))))] (fun _ _ => False) (fun E w => (E = "java/lang/IndexOutOfBoundsException") ∧ w = [(h0, .inr (7, [.ref a, .int (nI 0), .int (nI 8), .int (nI 0), .int (nI 0), .int (nI 0), .int (nI 0)])), (a, .inl (kA 2, 4, .inr (.inr (.inr (.inr (fun _ => none))))))]) := by
  refine ofxI (cc := cX6_turn) (maxL := 5) RX6 rfl (by decide +kernel) rfl (Nat.le_of_ble_eq_true rfl) ?_
  intro p e s m args below meth c A ls hxt hE
  obtain ⟨hx, hb, hr, hml, hts, hown, hlocks, hA, hS, hP, hK, hD, hG, hl⟩ := hE
  have hl : lv_has ls 5 [(0, .ref h0), (1, .int x0), (2, .int x1), (3, .int x2)] := hl
  have hH : s.heap = s.heap := rfl
  refine lv_aload_n hx hb dX6_turn_0 rfl (lv_at hl 0 rfl) ?_
  refine lv_iload_n hx hb dX6_turn_1 rfl (lv_at hl 1 rfl) ?_
  refine lv_iload_n hx hb dX6_turn_2 rfl (lv_at hl 2 rfl) ?_
  have hF := va_free (wc := [(h0, .inr (7, [.ref a, .int (nI 0), .int (nI 8), .int (nI 0), .int (nI 0), .int (nI 0), .int (nI 0)])), (a, .inl (kA 2, 4, .inr (.inr (.inr (.inr (fun _ => none))))))]) hD hS hA [0, 1] rfl
  refine vx_callr (vx_runV (As := [.int x0, .int x1]) (rest := []) ⟨hx, hb, hml, hown, hts⟩ (c_X6_existingTurn_e l D kA z hfl h0 a x0 x1  _) (cwV 2 hts gX6_turn_X6_existingTurn rfl rfl rfl (by decide +kernel) ⟨Nat.le_of_ble_eq_true rfl, Nat.le_of_ble_eq_true rfl⟩) (fPv hK hP hD hS hG hF [0, 1] (by decide) rfl 0 7 rfl rfl rfl) rfl rfl hl.1 rfl (lv_room (Nat.le_of_ble_eq_true rfl)) dX6_turn_3 ⟨Nat.le_of_ble_eq_true rfl, Nat.le_of_ble_eq_true rfl⟩) hS (fun q _ h => hF q h) hF (fun q _ h => hF q h) (fun E ce q9 u9 t H locs ht hvm hw hB hz1 hk1 hS hc9 hv9 hcl9 => ?_) (fun u1 ra9 t H locs ht hvm hw hB hz1 hk1 hS => ?_)
  ·
    obtain ⟨E9, w1⟩ := u9
    obtain ⟨e9, hB⟩ := hB
    have e9 : E9 = E := e9
    subst e9
    obtain ⟨hP, hD⟩ := fJ (wr := []) hP hD [0, 1] [] rfl rfl (by decide) (by decide) hk1 hF ht hB
    obtain ⟨hE9, rfl⟩ := hw
    try dsimp only at hE9
    have hP : va_P D vwCl [(h0, .inr (7, [.ref a, .int (nI 0), .int (nI 8), .int (nI 0), .int (nI 0), .int (nI 0), .int (nI 0)])), (a, .inl (kA 2, 4, .inr (.inr (.inr (.inr (fun _ => none))))))] H := hP
    have hD : va_D A [(h0, .inr (7, [.ref a, .int (nI 0), .int (nI 8), .int (nI 0), .int (nI 0), .int (nI 0), .int (nI 0)])), (a, .inl (kA 2, 4, .inr (.inr (.inr (.inr (fun _ => none))))))] := hD
    exact vx_out (fun x9 h9 => (hxt x9 h9).elim) hlocks hc9 hv9 hcl9 (xEnd0 hK hP hD hS ⟨hE9, rfl⟩) hS.2.2 (Nat.le_of_ble_eq_true rfl) (Nat.le_of_ble_eq_true rfl)
  · exact hw.elim

set_option maxHeartbeats 4000000 in
set_option maxRecDepth 100000 in
theorem c_X6_period_e (l : Launch) (D : va_G) (kA : Nat → ClassId) (z : Nat) (hfl : l.stackTraces = false) (h0 a : Nat) (x0 x1 : Int32)  : xD l D (tyL kA) z yX6_period wsX6_period ({ frames := 8, cells := 1, slots := 6, locals := 150 }) [.ref h0, .int x0, .int x1] [(h0, .inr (7, [.ref a, .int (nI 0), .int (nI 8), .int (nI 0), .int (nI 0), .int (nI 0), .int (nI 0)])), (a, .inl (kA 2, 4, .inr (.inr (.inr (.inr (fun _ => none))))))] (fun _ _ => False) (fun E w => (E = "java/lang/IndexOutOfBoundsException") ∧ w = [(h0, .inr (7, [.ref a, .int (nI 0), .int (nI 8), .int (nI 0), .int (nI 0), .int (nI 0), .int (nI 0)])), (a, .inl (kA 2, 4, .inr (.inr (.inr (.inr (fun _ => none))))))]) := by
  refine ofxD (cc := cX6_period) (maxL := 3) RX6 rfl (by decide +kernel) rfl (Nat.le_of_ble_eq_true rfl) ?_
  intro p e s m args below meth c A ls hxt hE
  obtain ⟨hx, hb, hr, hml, hts, hown, hlocks, hA, hS, hP, hK, hD, hG, hl⟩ := hE
  have hl : lv_has ls 3 [(0, .ref h0), (1, .int x0), (2, .int x1)] := hl
  have hH : s.heap = s.heap := rfl
  refine lv_aload_n hx hb dX6_period_0 rfl (lv_at hl 0 rfl) ?_
  refine lv_iload_n hx hb dX6_period_1 rfl (lv_at hl 1 rfl) ?_
  refine lv_iload_n hx hb dX6_period_2 rfl (lv_at hl 2 rfl) ?_
  have hF := va_free (wc := [(h0, .inr (7, [.ref a, .int (nI 0), .int (nI 8), .int (nI 0), .int (nI 0), .int (nI 0), .int (nI 0)])), (a, .inl (kA 2, 4, .inr (.inr (.inr (.inr (fun _ => none))))))]) hD hS hA [0, 1] rfl
  refine vx_callr (vx_runV (As := [.int x0, .int x1]) (rest := []) ⟨hx, hb, hml, hown, hts⟩ (c_X6_existingTurn_e l D kA z hfl h0 a x0 x1  _) (cwV 2 hts gX6_period_X6_existingTurn rfl rfl rfl (by decide +kernel) ⟨Nat.le_of_ble_eq_true rfl, Nat.le_of_ble_eq_true rfl⟩) (fPv hK hP hD hS hG hF [0, 1] (by decide) rfl 0 7 rfl rfl rfl) rfl rfl hl.1 rfl (lv_room (Nat.le_of_ble_eq_true rfl)) dX6_period_3 ⟨Nat.le_of_ble_eq_true rfl, Nat.le_of_ble_eq_true rfl⟩) hS (fun q _ h => hF q h) hF (fun q _ h => hF q h) (fun E ce q9 u9 t H locs ht hvm hw hB hz1 hk1 hS hc9 hv9 hcl9 => ?_) (fun u1 ra9 t H locs ht hvm hw hB hz1 hk1 hS => ?_)
  ·
    obtain ⟨E9, w1⟩ := u9
    obtain ⟨e9, hB⟩ := hB
    have e9 : E9 = E := e9
    subst e9
    obtain ⟨hP, hD⟩ := fJ (wr := []) hP hD [0, 1] [] rfl rfl (by decide) (by decide) hk1 hF ht hB
    obtain ⟨hE9, rfl⟩ := hw
    try dsimp only at hE9
    have hP : va_P D vwCl [(h0, .inr (7, [.ref a, .int (nI 0), .int (nI 8), .int (nI 0), .int (nI 0), .int (nI 0), .int (nI 0)])), (a, .inl (kA 2, 4, .inr (.inr (.inr (.inr (fun _ => none))))))] H := hP
    have hD : va_D A [(h0, .inr (7, [.ref a, .int (nI 0), .int (nI 8), .int (nI 0), .int (nI 0), .int (nI 0), .int (nI 0)])), (a, .inl (kA 2, 4, .inr (.inr (.inr (.inr (fun _ => none))))))] := hD
    exact vx_out (fun x9 h9 => (hxt x9 h9).elim) hlocks hc9 hv9 hcl9 (xEnd0 hK hP hD hS ⟨hE9, rfl⟩) hS.2.2 (Nat.le_of_ble_eq_true rfl) (Nat.le_of_ble_eq_true rfl)
  · exact hw.elim

set_option maxHeartbeats 4000000 in
set_option maxRecDepth 100000 in
theorem c_X6_ofSector_e (l : Launch) (D : va_G) (kA : Nat → ClassId) (z : Nat) (hfl : l.stackTraces = false) (h0 a : Nat) (x0 x1 x2 : Int32)  : xI l D (tyL kA) z yX6_ofSector wsX6_ofSector ({ frames := 7, cells := 1, slots := 6, locals := 120 }) [.ref h0, .int x0, .int x1, .int x2] [(h0, .inr (7, [.ref a, .int (nI 0), .int (nI 8), .int (nI 0), .int (nI 0), .int (nI 0), .int (nI 0)])), (a, .inl (kA 2, 4, .inr (.inr (.inr (.inr (fun _ => none))))))] (fun _ _ => False) (fun E w => (E = "java/lang/IndexOutOfBoundsException") ∧ w = [(h0, .inr (7, [.ref a, .int (nI 0), .int (nI 8), .int (nI 0), .int (nI 0), .int (nI 0), .int (nI 0)])), (a, .inl (kA 2, 4, .inr (.inr (.inr (.inr (fun _ => none))))))]) := by
  refine ofxI (cc := cX6_ofSector) (maxL := 5) RX6 rfl (by decide +kernel) rfl (Nat.le_of_ble_eq_true rfl) ?_
  intro p e s m args below meth c A ls hxt hE
  obtain ⟨hx, hb, hr, hml, hts, hown, hlocks, hA, hS, hP, hK, hD, hG, hl⟩ := hE
  have hl : lv_has ls 5 [(0, .ref h0), (1, .int x0), (2, .int x1), (3, .int x2)] := hl
  have hH : s.heap = s.heap := rfl
  refine lv_aload_n hx hb dX6_ofSector_0 rfl (lv_at hl 0 rfl) ?_
  refine lv_iload_n hx hb dX6_ofSector_1 rfl (lv_at hl 1 rfl) ?_
  have hF := va_free (wc := [(h0, .inr (7, [.ref a, .int (nI 0), .int (nI 8), .int (nI 0), .int (nI 0), .int (nI 0), .int (nI 0)])), (a, .inl (kA 2, 4, .inr (.inr (.inr (.inr (fun _ => none))))))]) hD hS hA [0, 1] rfl
  refine vx_callr (vx_runV (As := [.int x0]) (rest := []) ⟨hx, hb, hml, hown, hts⟩ (c_X6_existing_e l D kA z hfl h0 a x0  _) (cwV 1 hts gX6_ofSector_X6_existing rfl rfl rfl (by decide +kernel) ⟨Nat.le_of_ble_eq_true rfl, Nat.le_of_ble_eq_true rfl⟩) (fPv hK hP hD hS hG hF [0, 1] (by decide) rfl 0 7 rfl rfl rfl) rfl rfl hl.1 rfl (lv_room (Nat.le_of_ble_eq_true rfl)) dX6_ofSector_2 ⟨Nat.le_of_ble_eq_true rfl, Nat.le_of_ble_eq_true rfl⟩) hS (fun q _ h => hF q h) hF (fun q _ h => hF q h) (fun E ce q9 u9 t H locs ht hvm hw hB hz1 hk1 hS hc9 hv9 hcl9 => ?_) (fun u1 ra9 t H locs ht hvm hw hB hz1 hk1 hS => ?_)
  ·
    obtain ⟨E9, w1⟩ := u9
    obtain ⟨e9, hB⟩ := hB
    have e9 : E9 = E := e9
    subst e9
    obtain ⟨hP, hD⟩ := fJ (wr := []) hP hD [0, 1] [] rfl rfl (by decide) (by decide) hk1 hF ht hB
    obtain ⟨hE9, rfl⟩ := hw
    try dsimp only at hE9
    have hP : va_P D vwCl [(h0, .inr (7, [.ref a, .int (nI 0), .int (nI 8), .int (nI 0), .int (nI 0), .int (nI 0), .int (nI 0)])), (a, .inl (kA 2, 4, .inr (.inr (.inr (.inr (fun _ => none))))))] H := hP
    have hD : va_D A [(h0, .inr (7, [.ref a, .int (nI 0), .int (nI 8), .int (nI 0), .int (nI 0), .int (nI 0), .int (nI 0)])), (a, .inl (kA 2, 4, .inr (.inr (.inr (.inr (fun _ => none))))))] := hD
    exact vx_out (fun x9 h9 => (hxt x9 h9).elim) hlocks hc9 hv9 hcl9 (xEnd0 hK hP hD hS ⟨hE9, rfl⟩) hS.2.2 (Nat.le_of_ble_eq_true rfl) (Nat.le_of_ble_eq_true rfl)
  · exact hw.elim

set_option maxHeartbeats 4000000 in
set_option maxRecDepth 100000 in
theorem c_X6_chain_e (l : Launch) (D : va_G) (kA : Nat → ClassId) (z : Nat) (hfl : l.stackTraces = false) (h0 a : Nat) (x0 x1 : Int32)  : xI l D (tyL kA) z yX6_chain wsX6_chain ({ frames := 7, cells := 1, slots := 6, locals := 120 }) [.ref h0, .int x0, .int x1] [(h0, .inr (7, [.ref a, .int (nI 0), .int (nI 8), .int (nI 0), .int (nI 0), .int (nI 0), .int (nI 0)])), (a, .inl (kA 2, 4, .inr (.inr (.inr (.inr (fun _ => none))))))] (fun _ _ => False) (fun E w => (E = "java/lang/IndexOutOfBoundsException") ∧ w = [(h0, .inr (7, [.ref a, .int (nI 0), .int (nI 8), .int (nI 0), .int (nI 0), .int (nI 0), .int (nI 0)])), (a, .inl (kA 2, 4, .inr (.inr (.inr (.inr (fun _ => none))))))]) := by
  refine ofxI (cc := cX6_chain) (maxL := 4) RX6 rfl (by decide +kernel) rfl (Nat.le_of_ble_eq_true rfl) ?_
  intro p e s m args below meth c A ls hxt hE
  obtain ⟨hx, hb, hr, hml, hts, hown, hlocks, hA, hS, hP, hK, hD, hG, hl⟩ := hE
  have hl : lv_has ls 4 [(0, .ref h0), (1, .int x0), (2, .int x1)] := hl
  have hH : s.heap = s.heap := rfl
  refine lv_aload_n hx hb dX6_chain_0 rfl (lv_at hl 0 rfl) ?_
  refine lv_iload_n hx hb dX6_chain_1 rfl (lv_at hl 1 rfl) ?_
  have hF := va_free (wc := [(h0, .inr (7, [.ref a, .int (nI 0), .int (nI 8), .int (nI 0), .int (nI 0), .int (nI 0), .int (nI 0)])), (a, .inl (kA 2, 4, .inr (.inr (.inr (.inr (fun _ => none))))))]) hD hS hA [0, 1] rfl
  refine vx_callr (vx_runV (As := [.int x0]) (rest := []) ⟨hx, hb, hml, hown, hts⟩ (c_X6_existing_e l D kA z hfl h0 a x0  _) (cwV 1 hts gX6_chain_X6_existing rfl rfl rfl (by decide +kernel) ⟨Nat.le_of_ble_eq_true rfl, Nat.le_of_ble_eq_true rfl⟩) (fPv hK hP hD hS hG hF [0, 1] (by decide) rfl 0 7 rfl rfl rfl) rfl rfl hl.1 rfl (lv_room (Nat.le_of_ble_eq_true rfl)) dX6_chain_2 ⟨Nat.le_of_ble_eq_true rfl, Nat.le_of_ble_eq_true rfl⟩) hS (fun q _ h => hF q h) hF (fun q _ h => hF q h) (fun E ce q9 u9 t H locs ht hvm hw hB hz1 hk1 hS hc9 hv9 hcl9 => ?_) (fun u1 ra9 t H locs ht hvm hw hB hz1 hk1 hS => ?_)
  ·
    obtain ⟨E9, w1⟩ := u9
    obtain ⟨e9, hB⟩ := hB
    have e9 : E9 = E := e9
    subst e9
    obtain ⟨hP, hD⟩ := fJ (wr := []) hP hD [0, 1] [] rfl rfl (by decide) (by decide) hk1 hF ht hB
    obtain ⟨hE9, rfl⟩ := hw
    try dsimp only at hE9
    have hP : va_P D vwCl [(h0, .inr (7, [.ref a, .int (nI 0), .int (nI 8), .int (nI 0), .int (nI 0), .int (nI 0), .int (nI 0)])), (a, .inl (kA 2, 4, .inr (.inr (.inr (.inr (fun _ => none))))))] H := hP
    have hD : va_D A [(h0, .inr (7, [.ref a, .int (nI 0), .int (nI 8), .int (nI 0), .int (nI 0), .int (nI 0), .int (nI 0)])), (a, .inl (kA 2, 4, .inr (.inr (.inr (.inr (fun _ => none))))))] := hD
    exact vx_out (fun x9 h9 => (hxt x9 h9).elim) hlocks hc9 hv9 hcl9 (xEnd0 hK hP hD hS ⟨hE9, rfl⟩) hS.2.2 (Nat.le_of_ble_eq_true rfl) (Nat.le_of_ble_eq_true rfl)
  · exact hw.elim

set_option maxHeartbeats 4000000 in
set_option maxRecDepth 100000 in
theorem c_X6_sure_e (l : Launch) (D : va_G) (kA : Nat → ClassId) (z : Nat) (hfl : l.stackTraces = false) (h0 a : Nat) (x0 : Int32)  : xD l D (tyL kA) z yX6_sure wsX6_sure ({ frames := 7, cells := 1, slots := 6, locals := 120 }) [.ref h0, .int x0] [(h0, .inr (7, [.ref a, .int (nI 0), .int (nI 8), .int (nI 0), .int (nI 0), .int (nI 0), .int (nI 0)])), (a, .inl (kA 2, 4, .inr (.inr (.inr (.inr (fun _ => none))))))] (fun _ _ => False) (fun E w => (E = "java/lang/IndexOutOfBoundsException") ∧ w = [(h0, .inr (7, [.ref a, .int (nI 0), .int (nI 8), .int (nI 0), .int (nI 0), .int (nI 0), .int (nI 0)])), (a, .inl (kA 2, 4, .inr (.inr (.inr (.inr (fun _ => none))))))]) := by
  refine ofxD (cc := cX6_sure) (maxL := 4) RX6 rfl (by decide +kernel) rfl (Nat.le_of_ble_eq_true rfl) ?_
  intro p e s m args below meth c A ls hxt hE
  obtain ⟨hx, hb, hr, hml, hts, hown, hlocks, hA, hS, hP, hK, hD, hG, hl⟩ := hE
  have hl : lv_has ls 4 [(0, .ref h0), (1, .int x0)] := hl
  have hH : s.heap = s.heap := rfl
  refine lv_aload_n hx hb dX6_sure_0 rfl (lv_at hl 0 rfl) ?_
  refine lv_iload_n hx hb dX6_sure_1 rfl (lv_at hl 1 rfl) ?_
  have hF := va_free (wc := [(h0, .inr (7, [.ref a, .int (nI 0), .int (nI 8), .int (nI 0), .int (nI 0), .int (nI 0), .int (nI 0)])), (a, .inl (kA 2, 4, .inr (.inr (.inr (.inr (fun _ => none))))))]) hD hS hA [0, 1] rfl
  refine vx_callr (vx_runV (As := [.int x0]) (rest := []) ⟨hx, hb, hml, hown, hts⟩ (c_X6_existing_e l D kA z hfl h0 a x0  _) (cwV 1 hts gX6_sure_X6_existing rfl rfl rfl (by decide +kernel) ⟨Nat.le_of_ble_eq_true rfl, Nat.le_of_ble_eq_true rfl⟩) (fPv hK hP hD hS hG hF [0, 1] (by decide) rfl 0 7 rfl rfl rfl) rfl rfl hl.1 rfl (lv_room (Nat.le_of_ble_eq_true rfl)) dX6_sure_2 ⟨Nat.le_of_ble_eq_true rfl, Nat.le_of_ble_eq_true rfl⟩) hS (fun q _ h => hF q h) hF (fun q _ h => hF q h) (fun E ce q9 u9 t H locs ht hvm hw hB hz1 hk1 hS hc9 hv9 hcl9 => ?_) (fun u1 ra9 t H locs ht hvm hw hB hz1 hk1 hS => ?_)
  ·
    obtain ⟨E9, w1⟩ := u9
    obtain ⟨e9, hB⟩ := hB
    have e9 : E9 = E := e9
    subst e9
    obtain ⟨hP, hD⟩ := fJ (wr := []) hP hD [0, 1] [] rfl rfl (by decide) (by decide) hk1 hF ht hB
    obtain ⟨hE9, rfl⟩ := hw
    try dsimp only at hE9
    have hP : va_P D vwCl [(h0, .inr (7, [.ref a, .int (nI 0), .int (nI 8), .int (nI 0), .int (nI 0), .int (nI 0), .int (nI 0)])), (a, .inl (kA 2, 4, .inr (.inr (.inr (.inr (fun _ => none))))))] H := hP
    have hD : va_D A [(h0, .inr (7, [.ref a, .int (nI 0), .int (nI 8), .int (nI 0), .int (nI 0), .int (nI 0), .int (nI 0)])), (a, .inl (kA 2, 4, .inr (.inr (.inr (.inr (fun _ => none))))))] := hD
    exact vx_out (fun x9 h9 => (hxt x9 h9).elim) hlocks hc9 hv9 hcl9 (xEnd0 hK hP hD hS ⟨hE9, rfl⟩) hS.2.2 (Nat.le_of_ble_eq_true rfl) (Nat.le_of_ble_eq_true rfl)
  · exact hw.elim

set_option maxHeartbeats 4000000 in
set_option maxRecDepth 100000 in
theorem c_X6_plainLong_e (l : Launch) (D : va_G) (kA : Nat → ClassId) (z : Nat) (hfl : l.stackTraces = false) (h0 a : Nat) (x0 : Int32)  : xI l D (tyL kA) z yX6_plainLong wsX6_plainLong ({ frames := 7, cells := 1, slots := 6, locals := 120 }) [.ref h0, .int x0] [(h0, .inr (7, [.ref a, .int (nI 0), .int (nI 8), .int (nI 0), .int (nI 0), .int (nI 0), .int (nI 0)])), (a, .inl (kA 2, 4, .inr (.inr (.inr (.inr (fun _ => none))))))] (fun _ _ => False) (fun E w => (E = "java/lang/IndexOutOfBoundsException") ∧ w = [(h0, .inr (7, [.ref a, .int (nI 0), .int (nI 8), .int (nI 0), .int (nI 0), .int (nI 0), .int (nI 0)])), (a, .inl (kA 2, 4, .inr (.inr (.inr (.inr (fun _ => none))))))]) := by
  refine ofxI (cc := cX6_plainLong) (maxL := 2) RX6 rfl (by decide +kernel) rfl (Nat.le_of_ble_eq_true rfl) ?_
  intro p e s m args below meth c A ls hxt hE
  obtain ⟨hx, hb, hr, hml, hts, hown, hlocks, hA, hS, hP, hK, hD, hG, hl⟩ := hE
  have hl : lv_has ls 2 [(0, .ref h0), (1, .int x0)] := hl
  have hH : s.heap = s.heap := rfl
  refine lv_aload_n hx hb dX6_plainLong_0 rfl (lv_at hl 0 rfl) ?_
  refine lv_iload_n hx hb dX6_plainLong_1 rfl (lv_at hl 1 rfl) ?_
  have hF := va_free (wc := [(h0, .inr (7, [.ref a, .int (nI 0), .int (nI 8), .int (nI 0), .int (nI 0), .int (nI 0), .int (nI 0)])), (a, .inl (kA 2, 4, .inr (.inr (.inr (.inr (fun _ => none))))))]) hD hS hA [0, 1] rfl
  refine vx_callr (vx_runV (As := [.int x0]) (rest := []) ⟨hx, hb, hml, hown, hts⟩ (c_X6_existing_e l D kA z hfl h0 a x0  _) (cwV 1 hts gX6_plainLong_X6_existing rfl rfl rfl (by decide +kernel) ⟨Nat.le_of_ble_eq_true rfl, Nat.le_of_ble_eq_true rfl⟩) (fPv hK hP hD hS hG hF [0, 1] (by decide) rfl 0 7 rfl rfl rfl) rfl rfl hl.1 rfl (lv_room (Nat.le_of_ble_eq_true rfl)) dX6_plainLong_2 ⟨Nat.le_of_ble_eq_true rfl, Nat.le_of_ble_eq_true rfl⟩) hS (fun q _ h => hF q h) hF (fun q _ h => hF q h) (fun E ce q9 u9 t H locs ht hvm hw hB hz1 hk1 hS hc9 hv9 hcl9 => ?_) (fun u1 ra9 t H locs ht hvm hw hB hz1 hk1 hS => ?_)
  ·
    obtain ⟨E9, w1⟩ := u9
    obtain ⟨e9, hB⟩ := hB
    have e9 : E9 = E := e9
    subst e9
    obtain ⟨hP, hD⟩ := fJ (wr := []) hP hD [0, 1] [] rfl rfl (by decide) (by decide) hk1 hF ht hB
    obtain ⟨hE9, rfl⟩ := hw
    try dsimp only at hE9
    have hP : va_P D vwCl [(h0, .inr (7, [.ref a, .int (nI 0), .int (nI 8), .int (nI 0), .int (nI 0), .int (nI 0), .int (nI 0)])), (a, .inl (kA 2, 4, .inr (.inr (.inr (.inr (fun _ => none))))))] H := hP
    have hD : va_D A [(h0, .inr (7, [.ref a, .int (nI 0), .int (nI 8), .int (nI 0), .int (nI 0), .int (nI 0), .int (nI 0)])), (a, .inl (kA 2, 4, .inr (.inr (.inr (.inr (fun _ => none))))))] := hD
    exact vx_out (fun x9 h9 => (hxt x9 h9).elim) hlocks hc9 hv9 hcl9 (xEnd0 hK hP hD hS ⟨hE9, rfl⟩) hS.2.2 (Nat.le_of_ble_eq_true rfl) (Nat.le_of_ble_eq_true rfl)
  · exact hw.elim

set_option maxHeartbeats 4000000 in
set_option maxRecDepth 100000 in
theorem c_X6_wouldLose_e (l : Launch) (D : va_G) (kA : Nat → ClassId) (z : Nat) (hfl : l.stackTraces = false) (h0 a : Nat) (x0 : Int32)  : xI l D (tyL kA) z yX6_wouldLose wsX6_wouldLose ({ frames := 7, cells := 1, slots := 6, locals := 120 }) [.ref h0, .int x0] [(h0, .inr (7, [.ref a, .int (nI 0), .int (nI 8), .int (nI 0), .int (nI 0), .int (nI 0), .int (nI 0)])), (a, .inl (kA 2, 4, .inr (.inr (.inr (.inr (fun _ => none))))))] (fun _ _ => False) (fun E w => (E = "java/lang/IndexOutOfBoundsException") ∧ w = [(h0, .inr (7, [.ref a, .int (nI 0), .int (nI 8), .int (nI 0), .int (nI 0), .int (nI 0), .int (nI 0)])), (a, .inl (kA 2, 4, .inr (.inr (.inr (.inr (fun _ => none))))))]) := by
  refine ofxI (cc := cX6_wouldLose) (maxL := 4) RX6 rfl (by decide +kernel) rfl (Nat.le_of_ble_eq_true rfl) ?_
  intro p e s m args below meth c A ls hxt hE
  obtain ⟨hx, hb, hr, hml, hts, hown, hlocks, hA, hS, hP, hK, hD, hG, hl⟩ := hE
  have hl : lv_has ls 4 [(0, .ref h0), (1, .int x0)] := hl
  have hH : s.heap = s.heap := rfl
  refine lv_aload_n hx hb dX6_wouldLose_0 rfl (lv_at hl 0 rfl) ?_
  refine lv_iload_n hx hb dX6_wouldLose_1 rfl (lv_at hl 1 rfl) ?_
  have hF := va_free (wc := [(h0, .inr (7, [.ref a, .int (nI 0), .int (nI 8), .int (nI 0), .int (nI 0), .int (nI 0), .int (nI 0)])), (a, .inl (kA 2, 4, .inr (.inr (.inr (.inr (fun _ => none))))))]) hD hS hA [0, 1] rfl
  refine vx_callr (vx_runV (As := [.int x0]) (rest := []) ⟨hx, hb, hml, hown, hts⟩ (c_X6_existing_e l D kA z hfl h0 a x0  _) (cwV 1 hts gX6_wouldLose_X6_existing rfl rfl rfl (by decide +kernel) ⟨Nat.le_of_ble_eq_true rfl, Nat.le_of_ble_eq_true rfl⟩) (fPv hK hP hD hS hG hF [0, 1] (by decide) rfl 0 7 rfl rfl rfl) rfl rfl hl.1 rfl (lv_room (Nat.le_of_ble_eq_true rfl)) dX6_wouldLose_2 ⟨Nat.le_of_ble_eq_true rfl, Nat.le_of_ble_eq_true rfl⟩) hS (fun q _ h => hF q h) hF (fun q _ h => hF q h) (fun E ce q9 u9 t H locs ht hvm hw hB hz1 hk1 hS hc9 hv9 hcl9 => ?_) (fun u1 ra9 t H locs ht hvm hw hB hz1 hk1 hS => ?_)
  ·
    obtain ⟨E9, w1⟩ := u9
    obtain ⟨e9, hB⟩ := hB
    have e9 : E9 = E := e9
    subst e9
    obtain ⟨hP, hD⟩ := fJ (wr := []) hP hD [0, 1] [] rfl rfl (by decide) (by decide) hk1 hF ht hB
    obtain ⟨hE9, rfl⟩ := hw
    try dsimp only at hE9
    have hP : va_P D vwCl [(h0, .inr (7, [.ref a, .int (nI 0), .int (nI 8), .int (nI 0), .int (nI 0), .int (nI 0), .int (nI 0)])), (a, .inl (kA 2, 4, .inr (.inr (.inr (.inr (fun _ => none))))))] H := hP
    have hD : va_D A [(h0, .inr (7, [.ref a, .int (nI 0), .int (nI 8), .int (nI 0), .int (nI 0), .int (nI 0), .int (nI 0)])), (a, .inl (kA 2, 4, .inr (.inr (.inr (.inr (fun _ => none))))))] := hD
    exact vx_out (fun x9 h9 => (hxt x9 h9).elim) hlocks hc9 hv9 hcl9 (xEnd0 hK hP hD hS ⟨hE9, rfl⟩) hS.2.2 (Nat.le_of_ble_eq_true rfl) (Nat.le_of_ble_eq_true rfl)
  · exact hw.elim

set_option maxHeartbeats 4000000 in
set_option maxRecDepth 100000 in
theorem c_X6_goodBy_e (l : Launch) (D : va_G) (kA : Nat → ClassId) (z : Nat) (hfl : l.stackTraces = false) (h0 a : Nat) (x0 x1 : Int32)  : xI l D (tyL kA) z yX6_goodBy wsX6_goodBy ({ frames := 7, cells := 1, slots := 6, locals := 120 }) [.ref h0, .int x0, .int x1] [(h0, .inr (7, [.ref a, .int (nI 0), .int (nI 8), .int (nI 0), .int (nI 0), .int (nI 0), .int (nI 0)])), (a, .inl (kA 2, 4, .inr (.inr (.inr (.inr (fun _ => none))))))] (fun _ _ => False) (fun E w => (E = "java/lang/IndexOutOfBoundsException") ∧ w = [(h0, .inr (7, [.ref a, .int (nI 0), .int (nI 8), .int (nI 0), .int (nI 0), .int (nI 0), .int (nI 0)])), (a, .inl (kA 2, 4, .inr (.inr (.inr (.inr (fun _ => none))))))]) := by
  refine ofxI (cc := cX6_goodBy) (maxL := 4) RX6 rfl (by decide +kernel) rfl (Nat.le_of_ble_eq_true rfl) ?_
  intro p e s m args below meth c A ls hxt hE
  obtain ⟨hx, hb, hr, hml, hts, hown, hlocks, hA, hS, hP, hK, hD, hG, hl⟩ := hE
  have hl : lv_has ls 4 [(0, .ref h0), (1, .int x0), (2, .int x1)] := hl
  have hH : s.heap = s.heap := rfl
  refine lv_aload_n hx hb dX6_goodBy_0 rfl (lv_at hl 0 rfl) ?_
  refine lv_iload_n hx hb dX6_goodBy_1 rfl (lv_at hl 1 rfl) ?_
  have hF := va_free (wc := [(h0, .inr (7, [.ref a, .int (nI 0), .int (nI 8), .int (nI 0), .int (nI 0), .int (nI 0), .int (nI 0)])), (a, .inl (kA 2, 4, .inr (.inr (.inr (.inr (fun _ => none))))))]) hD hS hA [0, 1] rfl
  refine vx_callr (vx_runV (As := [.int x0]) (rest := []) ⟨hx, hb, hml, hown, hts⟩ (c_X6_existing_e l D kA z hfl h0 a x0  _) (cwV 1 hts gX6_goodBy_X6_existing rfl rfl rfl (by decide +kernel) ⟨Nat.le_of_ble_eq_true rfl, Nat.le_of_ble_eq_true rfl⟩) (fPv hK hP hD hS hG hF [0, 1] (by decide) rfl 0 7 rfl rfl rfl) rfl rfl hl.1 rfl (lv_room (Nat.le_of_ble_eq_true rfl)) dX6_goodBy_2 ⟨Nat.le_of_ble_eq_true rfl, Nat.le_of_ble_eq_true rfl⟩) hS (fun q _ h => hF q h) hF (fun q _ h => hF q h) (fun E ce q9 u9 t H locs ht hvm hw hB hz1 hk1 hS hc9 hv9 hcl9 => ?_) (fun u1 ra9 t H locs ht hvm hw hB hz1 hk1 hS => ?_)
  ·
    obtain ⟨E9, w1⟩ := u9
    obtain ⟨e9, hB⟩ := hB
    have e9 : E9 = E := e9
    subst e9
    obtain ⟨hP, hD⟩ := fJ (wr := []) hP hD [0, 1] [] rfl rfl (by decide) (by decide) hk1 hF ht hB
    obtain ⟨hE9, rfl⟩ := hw
    try dsimp only at hE9
    have hP : va_P D vwCl [(h0, .inr (7, [.ref a, .int (nI 0), .int (nI 8), .int (nI 0), .int (nI 0), .int (nI 0), .int (nI 0)])), (a, .inl (kA 2, 4, .inr (.inr (.inr (.inr (fun _ => none))))))] H := hP
    have hD : va_D A [(h0, .inr (7, [.ref a, .int (nI 0), .int (nI 8), .int (nI 0), .int (nI 0), .int (nI 0), .int (nI 0)])), (a, .inl (kA 2, 4, .inr (.inr (.inr (.inr (fun _ => none))))))] := hD
    exact vx_out (fun x9 h9 => (hxt x9 h9).elim) hlocks hc9 hv9 hcl9 (xEnd0 hK hP hD hS ⟨hE9, rfl⟩) hS.2.2 (Nat.le_of_ble_eq_true rfl) (Nat.le_of_ble_eq_true rfl)
  · exact hw.elim

