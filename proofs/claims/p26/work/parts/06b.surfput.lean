def wq_X3_put_in : List Cond := .code yX3_put cX3_put 3 none :: (([.fieldLink RX3 25 "FluxBench$Surface" "length" "I", .fieldLink RX3 9 "FluxBench$Surface" "bits" "[I", .fieldLink RX3 15 "FluxBench$Surface" "widths" "[I", .fieldLink RX3 18 "FluxBench$Surface" "weakness" "[Z", .fieldLink RX3 22 "FluxBench$Surface" "dirtiness" "[I"] : List Cond) ++ (u_ws RX3 TX3 6 ++ ([] : List Cond)))
theorem gd_X3_put_in : wq_X3_put_in.all goodWord = true := by decide +kernel
theorem n_X3_put_in_X3 : ∀ w ∈ u_ws RX3 TX3 6, w ∈ wq_X3_put_in := fun w h => List.mem_cons_of_mem _ (List.mem_append_right _ (List.mem_append_left _ h))
set_option maxHeartbeats 4000000 in
set_option maxRecDepth 100000 in
theorem c_X3_put_in (l : Launch) (D : va_G) (kA : Nat → ClassId) (z : Nat) (h0 a1 a2 a3 a4 n : Nat) (ah : Int32) (fb fw fk fd : Nat → Int32) (x wv : Int32) (h1 : n < 400) : mV l D (tyL kA) z yX3_put wq_X3_put_in ({ frames := 0, cells := 0, slots := 0, locals := 0 }) [.ref h0, .int x, .int wv] [(h0, .inr (2, [.ref a1, .ref a2, .ref a3, .ref a4, .int (nI n), .int ah])), (a1, .inl (kA 0, 400, .inl fb)), (a2, .inl (kA 0, 400, .inl fw)), (a3, .inl (kA 1, 400, .inl fk)), (a4, .inl (kA 0, 400, .inl fd))] (fun w => w = [(h0, .inr (2, [.ref a1, .ref a2, .ref a3, .ref a4, .int (nI (n + 1)), .int ah])), (a1, .inl (kA 0, 400, .inl (upd fb n x))), (a2, .inl (kA 0, 400, .inl (upd fw n wv))), (a3, .inl (kA 1, 400, .inl (upd fk n (nI 0)))), (a4, .inl (kA 0, 400, .inl (upd fd n (nI 0))))]) := by
  refine ofV (cc := cX3_put) (maxL := 3) RX3 rfl (by decide +kernel) rfl (Nat.le_of_ble_eq_true rfl) ?_
  intro p e s m args below meth c A ls hnm hE
  obtain ⟨hx, hb, hr, hml, hts, hown, hlocks, hA, hS, hP, hK, hD, hG, hl⟩ := hE
  have hl : lv_has ls 3 [(0, .ref h0), (1, .int x), (2, .int wv)] := hl
  have hH : s.heap = s.heap := rfl
  refine lv_aload_n hx hb dX3_put_0 rfl (lv_at hl 0 rfl) ?_
  refine va_get (D := D) (ci := 2) (v := .int (nI n)) (C := RX3) (T := TX3) (N := 6) hx hb hts n_X3_put_in_X3 hown hK hP 0 rfl rfl 4 (by decide) (wAt hts 1 (w := .fieldLink RX3 25 "FluxBench$Surface" "length" "I") rfl) (fun _ h9 => h9) rfl dX3_put_1 ?_
  refine lv_if_lt (tgt := 17) hx hb dX3_put_4 (by decide) (fun c4 => absurd c4 (nI_pos (n := n) (by omega))) (fun _ => ?_)
  refine lv_aload_n hx hb dX3_put_7 rfl (lv_at hl 0 rfl) ?_
  refine va_get (D := D) (ci := 2) (v := .int (nI n)) (C := RX3) (T := TX3) (N := 6) hx hb hts n_X3_put_in_X3 hown hK hP 0 rfl rfl 4 (by decide) (wAt hts 1 (w := .fieldLink RX3 25 "FluxBench$Surface" "length" "I") rfl) (fun _ h9 => h9) rfl dX3_put_8 ?_
  refine lv_sipush (v := nI 400) hx hb dX3_put_11 (by decide) ?_
  refine lv_icmp_lt (tgt := 18) hx hb dX3_put_14 (by decide) (fun _ => ?_) (fun c14 => False.elim (by rw [qlt (a := n) (b := 400) (by omega) (by omega)] at c14; omega))
  refine lv_aload_n hx hb dX3_put_18 rfl (lv_at hl 0 rfl) ?_
  refine va_get (D := D) (ci := 2) (v := .ref a1) (C := RX3) (T := TX3) (N := 6) hx hb hts n_X3_put_in_X3 hown hK hP 0 rfl rfl 0 (by decide) (wAt hts 2 (w := .fieldLink RX3 9 "FluxBench$Surface" "bits" "[I") rfl) (fun _ h9 => h9) rfl dX3_put_19 ?_
  refine lv_aload_n hx hb dX3_put_22 rfl (lv_at hl 0 rfl) ?_
  refine va_get (D := D) (ci := 2) (v := .int (nI n)) (C := RX3) (T := TX3) (N := 6) hx hb hts n_X3_put_in_X3 hown hK hP 0 rfl rfl 4 (by decide) (wAt hts 1 (w := .fieldLink RX3 25 "FluxBench$Surface" "length" "I") rfl) (fun _ h9 => h9) rfl dX3_put_23 ?_
  refine lv_iload_n hx hb dX3_put_26 rfl (lv_at hl 1 rfl) ?_
  refine va_iast hx hb hK hP hD hS 1 0 rfl rfl (vp_in_nI (n := n) (by omega) (by decide)) dX3_put_27 (fun H locs hP hD hS => ?_)
  rw [nI_clamp (n := n) (by omega)] at hP hD
  have hP : va_P D vwCl [(h0, .inr (2, [.ref a1, .ref a2, .ref a3, .ref a4, .int (nI n), .int ah])), (a1, .inl (kA 0, 400, .inl (upd fb n x))), (a2, .inl (kA 0, 400, .inl fw)), (a3, .inl (kA 1, 400, .inl fk)), (a4, .inl (kA 0, 400, .inl fd))] H := hP
  have hD : va_D A [(h0, .inr (2, [.ref a1, .ref a2, .ref a3, .ref a4, .int (nI n), .int ah])), (a1, .inl (kA 0, 400, .inl (upd fb n x))), (a2, .inl (kA 0, 400, .inl fw)), (a3, .inl (kA 1, 400, .inl fk)), (a4, .inl (kA 0, 400, .inl fd))] := hD
  refine lv_aload_n hx hb dX3_put_28 rfl (lv_at hl 0 rfl) ?_
  refine va_get (D := D) (ci := 2) (v := .ref a2) (C := RX3) (T := TX3) (N := 6) hx hb hts n_X3_put_in_X3 hown hK hP 0 rfl rfl 1 (by decide) (wAt hts 3 (w := .fieldLink RX3 15 "FluxBench$Surface" "widths" "[I") rfl) (fun _ h9 => h9) rfl dX3_put_29 ?_
  refine lv_aload_n hx hb dX3_put_32 rfl (lv_at hl 0 rfl) ?_
  refine va_get (D := D) (ci := 2) (v := .int (nI n)) (C := RX3) (T := TX3) (N := 6) hx hb hts n_X3_put_in_X3 hown hK hP 0 rfl rfl 4 (by decide) (wAt hts 1 (w := .fieldLink RX3 25 "FluxBench$Surface" "length" "I") rfl) (fun _ h9 => h9) rfl dX3_put_33 ?_
  refine lv_iload_n hx hb dX3_put_36 rfl (lv_at hl 2 rfl) ?_
  refine va_iast hx hb hK hP hD hS 2 0 rfl rfl (vp_in_nI (n := n) (by omega) (by decide)) dX3_put_37 (fun H locs hP hD hS => ?_)
  rw [nI_clamp (n := n) (by omega)] at hP hD
  have hP : va_P D vwCl [(h0, .inr (2, [.ref a1, .ref a2, .ref a3, .ref a4, .int (nI n), .int ah])), (a1, .inl (kA 0, 400, .inl (upd fb n x))), (a2, .inl (kA 0, 400, .inl (upd fw n wv))), (a3, .inl (kA 1, 400, .inl fk)), (a4, .inl (kA 0, 400, .inl fd))] H := hP
  have hD : va_D A [(h0, .inr (2, [.ref a1, .ref a2, .ref a3, .ref a4, .int (nI n), .int ah])), (a1, .inl (kA 0, 400, .inl (upd fb n x))), (a2, .inl (kA 0, 400, .inl (upd fw n wv))), (a3, .inl (kA 1, 400, .inl fk)), (a4, .inl (kA 0, 400, .inl fd))] := hD
  refine lv_aload_n hx hb dX3_put_38 rfl (lv_at hl 0 rfl) ?_
  refine va_get (D := D) (ci := 2) (v := .ref a3) (C := RX3) (T := TX3) (N := 6) hx hb hts n_X3_put_in_X3 hown hK hP 0 rfl rfl 2 (by decide) (wAt hts 4 (w := .fieldLink RX3 18 "FluxBench$Surface" "weakness" "[Z") rfl) (fun _ h9 => h9) rfl dX3_put_39 ?_
  refine lv_aload_n hx hb dX3_put_42 rfl (lv_at hl 0 rfl) ?_
  refine va_get (D := D) (ci := 2) (v := .int (nI n)) (C := RX3) (T := TX3) (N := 6) hx hb hts n_X3_put_in_X3 hown hK hP 0 rfl rfl 4 (by decide) (wAt hts 1 (w := .fieldLink RX3 25 "FluxBench$Surface" "length" "I") rfl) (fun _ h9 => h9) rfl dX3_put_43 ?_
  refine lv_iconst (v := nI 0) hx hb dX3_put_46 (by decide) ?_
  refine va_zast hx hb hK hP hD hS 3 1 rfl rfl (vp_in_nI (n := n) (by omega) (by decide)) dX3_put_47 (fun H locs hP hD hS => ?_)
  rw [nI_clamp (n := n) (by omega)] at hP hD
  rw [(nar01 (b := 0) (by decide) : vp_nar .boolean (nI 0) = nI 0)] at hP hD
  have hP : va_P D vwCl [(h0, .inr (2, [.ref a1, .ref a2, .ref a3, .ref a4, .int (nI n), .int ah])), (a1, .inl (kA 0, 400, .inl (upd fb n x))), (a2, .inl (kA 0, 400, .inl (upd fw n wv))), (a3, .inl (kA 1, 400, .inl (upd fk n (nI 0)))), (a4, .inl (kA 0, 400, .inl fd))] H := hP
  have hD : va_D A [(h0, .inr (2, [.ref a1, .ref a2, .ref a3, .ref a4, .int (nI n), .int ah])), (a1, .inl (kA 0, 400, .inl (upd fb n x))), (a2, .inl (kA 0, 400, .inl (upd fw n wv))), (a3, .inl (kA 1, 400, .inl (upd fk n (nI 0)))), (a4, .inl (kA 0, 400, .inl fd))] := hD
  refine lv_aload_n hx hb dX3_put_48 rfl (lv_at hl 0 rfl) ?_
  refine va_get (D := D) (ci := 2) (v := .ref a4) (C := RX3) (T := TX3) (N := 6) hx hb hts n_X3_put_in_X3 hown hK hP 0 rfl rfl 3 (by decide) (wAt hts 5 (w := .fieldLink RX3 22 "FluxBench$Surface" "dirtiness" "[I") rfl) (fun _ h9 => h9) rfl dX3_put_49 ?_
  refine lv_aload_n hx hb dX3_put_52 rfl (lv_at hl 0 rfl) ?_
  refine va_get (D := D) (ci := 2) (v := .int (nI n)) (C := RX3) (T := TX3) (N := 6) hx hb hts n_X3_put_in_X3 hown hK hP 0 rfl rfl 4 (by decide) (wAt hts 1 (w := .fieldLink RX3 25 "FluxBench$Surface" "length" "I") rfl) (fun _ h9 => h9) rfl dX3_put_53 ?_
  refine lv_iconst (v := nI 0) hx hb dX3_put_56 (by decide) ?_
  refine va_iast hx hb hK hP hD hS 4 0 rfl rfl (vp_in_nI (n := n) (by omega) (by decide)) dX3_put_57 (fun H locs hP hD hS => ?_)
  rw [nI_clamp (n := n) (by omega)] at hP hD
  have hP : va_P D vwCl [(h0, .inr (2, [.ref a1, .ref a2, .ref a3, .ref a4, .int (nI n), .int ah])), (a1, .inl (kA 0, 400, .inl (upd fb n x))), (a2, .inl (kA 0, 400, .inl (upd fw n wv))), (a3, .inl (kA 1, 400, .inl (upd fk n (nI 0)))), (a4, .inl (kA 0, 400, .inl (upd fd n (nI 0))))] H := hP
  have hD : va_D A [(h0, .inr (2, [.ref a1, .ref a2, .ref a3, .ref a4, .int (nI n), .int ah])), (a1, .inl (kA 0, 400, .inl (upd fb n x))), (a2, .inl (kA 0, 400, .inl (upd fw n wv))), (a3, .inl (kA 1, 400, .inl (upd fk n (nI 0)))), (a4, .inl (kA 0, 400, .inl (upd fd n (nI 0))))] := hD
  refine lv_aload_n hx hb dX3_put_58 rfl (lv_at hl 0 rfl) ?_
  refine lv_dup hx hb dX3_put_59 rfl ?_
  refine va_get (D := D) (ci := 2) (v := .int (nI n)) (C := RX3) (T := TX3) (N := 6) hx hb hts n_X3_put_in_X3 hown hK hP 0 rfl rfl 4 (by decide) (wAt hts 1 (w := .fieldLink RX3 25 "FluxBench$Surface" "length" "I") rfl) (fun _ h9 => h9) rfl dX3_put_60 ?_
  refine lv_iconst (v := nI 1) hx hb dX3_put_63 (by decide) ?_
  refine lv_iadd hx hb dX3_put_64 ?_
  rw [nI_add n 1]
  refine va_put (D := D) (ci := 2) (v := .int (nI (n + 1))) (ty := .int) (C := RX3) (T := TX3) (N := 6) hx hb hts n_X3_put_in_X3 tyX3 tyX3_ok nmX3 hown hK hP hD hS 0 rfl rfl 4 (by decide) (wAt hts 1 (w := .fieldLink RX3 25 "FluxBench$Surface" "length" "I") rfl) (fun _ h9 => h9) rfl (by decide +kernel) rfl rfl (Nat.le_of_ble_eq_true rfl) dX3_put_65 (fun H locs hP hD hS => ?_)
  have hP : va_P D vwCl [(h0, .inr (2, [.ref a1, .ref a2, .ref a3, .ref a4, .int (nI (n + 1)), .int ah])), (a1, .inl (kA 0, 400, .inl (upd fb n x))), (a2, .inl (kA 0, 400, .inl (upd fw n wv))), (a3, .inl (kA 1, 400, .inl (upd fk n (nI 0)))), (a4, .inl (kA 0, 400, .inl (upd fd n (nI 0))))] H := hP
  have hD : va_D A [(h0, .inr (2, [.ref a1, .ref a2, .ref a3, .ref a4, .int (nI (n + 1)), .int ah])), (a1, .inl (kA 0, 400, .inl (upd fb n x))), (a2, .inl (kA 0, 400, .inl (upd fw n wv))), (a3, .inl (kA 1, 400, .inl (upd fk n (nI 0)))), (a4, .inl (kA 0, 400, .inl (upd fd n (nI 0))))] := hD
  exact endV hx hb hr hlocks hK hP hD hS (rfl) (Nat.le_of_ble_eq_true rfl) (Nat.le_of_ble_eq_true rfl) dX3_put_68

def wq_X3_putDigits : List Cond := .code yX3_putDigits cX3_putDigits 5 none :: (([.methodLink RX3 42 yX3_put, .instanceMethod yX3_put, .selects RX3 yX3_put yX3_put, .initialized RX3] : List Cond) ++ (wq_X3_put_in ++ ([] : List Cond)))
theorem gd_X3_putDigits : wq_X3_putDigits.all goodWord = true := by decide +kernel
theorem h_X3_putDigits_0 : GoodIn wq_X3_putDigits (wsV RX3 42 RX3 yX3_put wq_X3_put_in) := goodIn_app (goodIn_r _ [1, 2, 3, 4] (by decide +kernel) (by decide +kernel)) (goodIn_sub (fun w h => List.mem_cons_of_mem _ (List.mem_append_right _ (List.mem_append_left _ h))) gd_X3_put_in)
set_option maxHeartbeats 4000000 in
set_option maxRecDepth 100000 in
theorem c_X3_putDigits (l : Launch) (D : va_G) (kA : Nat → ClassId) (z : Nat) (h0 a1 a2 a3 a4 n : Nat) (ah : Int32) (fb fw fk fd : Nat → Int32) (x wv : Int32) (cn : Nat) (h1 : n + cn ≤ 400) (hc1 : 1 ≤ cn) (hc : cn ≤ 31) : mV l D (tyL kA) z yX3_putDigits wq_X3_putDigits ({ frames := 1, cells := 0, slots := 0, locals := 22 }) [.ref h0, .int x, .int (nI cn), .int wv] [(h0, .inr (2, [.ref a1, .ref a2, .ref a3, .ref a4, .int (nI n), .int ah])), (a1, .inl (kA 0, 400, .inl fb)), (a2, .inl (kA 0, 400, .inl fw)), (a3, .inl (kA 1, 400, .inl fk)), (a4, .inl (kA 0, 400, .inl fd))] (fun w => ∃ (n2 : Nat) (fb2 fw2 fk2 fd2 : Nat → Int32), w = [(h0, .inr (2, [.ref a1, .ref a2, .ref a3, .ref a4, .int (nI n2), .int ah])), (a1, .inl (kA 0, 400, .inl fb2)), (a2, .inl (kA 0, 400, .inl fw2)), (a3, .inl (kA 1, 400, .inl fk2)), (a4, .inl (kA 0, 400, .inl fd2))] ∧ (pD x cn wv n 0 n2 fb fb2 fw fw2 fk fk2 fd fd2)) := by
  refine ofV (cc := cX3_putDigits) (maxL := 5) RX3 rfl (by decide +kernel) rfl (Nat.le_of_ble_eq_true rfl) ?_
  intro p e s m args below meth c A ls hnm hE
  obtain ⟨hx, hb, hr, hml, hts, hown, hlocks, hA, hS, hP, hK, hD, hG, hl⟩ := hE
  have hl : lv_has ls 5 [(0, .ref h0), (1, .int x), (2, .int (nI cn)), (3, .int wv)] := hl
  have hH : s.heap = s.heap := rfl
  refine lv_iload_n hx hb dX3_putDigits_0 rfl (lv_at hl 2 rfl) ?_
  refine lv_iconst (v := nI 1) hx hb dX3_putDigits_1 (by decide) ?_
  have e6 : nI cn - nI 1 = sh cn := rfl
  refine lv_isub hx hb dX3_putDigits_2 ?_
  rw [e6]
  refine lv_istore (lv' := [(4, .int (sh cn)), (0, .ref h0), (1, .int x), (2, .int (nI cn)), (3, .int wv)]) hx hb dX3_putDigits_3 hl (by decide) rfl (fun ls hl => ?_)
  have lp_5 : ∀ (n_5 : Nat) (q9 : Nat) (m9 : Nat) (gb : Nat → Int32) (gw : Nat → Int32) (gk : Nat → Int32) (gd : Nat → Int32), q9 < n_5 → (pD x cn wv n q9 m9 fb gb fw gw fk gk fd gd) → ∀ (H : Heap) (locs : List Loc) (ls : Array Slot), va_P D vwCl [(h0, .inr (2, [.ref a1, .ref a2, .ref a3, .ref a4, .int (nI m9), .int ah])), (a1, .inl (kA 0, 400, .inl gb)), (a2, .inl (kA 0, 400, .inl gw)), (a3, .inl (kA 1, 400, .inl gk)), (a4, .inl (kA 0, 400, .inl gd))] H → va_D A [(h0, .inr (2, [.ref a1, .ref a2, .ref a3, .ref a4, .int (nI m9), .int ah])), (a1, .inl (kA 0, 400, .inl gb)), (a2, .inl (kA 0, 400, .inl gw)), (a3, .inl (kA 1, 400, .inl gk)), (a4, .inl (kA 0, 400, .inl gd))] → va_S A s.heap H locs → lv_has ls 5 [(4, .int (sh q9)), (0, .ref h0), (1, .int x), (2, .int (nI cn)), (3, .int wv)] → W p l e ({ frames := 1, cells := 0, slots := 0, locals := 22 }) s m args below meth c H locs 0 0 (MQ below (va_Qv (fun w => ∃ (n2 : Nat) (fb2 fw2 fk2 fd2 : Nat → Int32), w = [(h0, .inr (2, [.ref a1, .ref a2, .ref a3, .ref a4, .int (nI n2), .int ah])), (a1, .inl (kA 0, 400, .inl fb2)), (a2, .inl (kA 0, 400, .inl fw2)), (a3, .inl (kA 1, 400, .inl fk2)), (a4, .inl (kA 0, 400, .inl fd2))] ∧ (pD x cn wv n 0 n2 fb fb2 fw fw2 fk fk2 fd fd2)) (fB D (tyL kA) A) A) args s 0 0 A) (F0 m 5 ls []) := by
    clear hP hD hS hl
    intro n_5
    induction n_5 with
    | zero =>
      intro q9 m9 gb gw gk gd hm_5 hp9
      exact absurd hm_5 (by omega)
    | succ n_5 ih_5 =>
      intro q9 m9 gb gw gk gd hm_5 hp9 H locs ls hP hD hS hl
      have hm8 := hp9.2.1
      have hm7 := hp9.1
      refine lv_iload hx hb dX3_putDigits_5 (lv_at hl 0 rfl) ?_
      rcases Nat.eq_zero_or_pos q9 with e7 | e7
      ·
        refine lv_if_lt (tgt := 27) hx hb dX3_putDigits_7 (by decide) (fun _ => ?_) (fun c7 => absurd (by rw [e7]; decide) c7)
        exact endV hx hb hr hlocks hK hP hD hS (⟨m9, gb, gw, gk, gd, rfl, by rw [e7] at hp9; exact hp9⟩) (Nat.le_of_ble_eq_true rfl) (Nat.le_of_ble_eq_true rfl) dX3_putDigits_27
      ·
        have e8 : sh q9 = nI (q9 - 1) := sh_pos e7
        rw [e8] at hl
        rw [e8]
        refine lv_if_lt (tgt := 27) hx hb dX3_putDigits_7 (by decide) (fun c7 => absurd c7 (nI_pos (by omega))) (fun _ => ?_)
        refine lv_aload_n hx hb dX3_putDigits_10 rfl (lv_at hl 1 rfl) ?_
        refine lv_iload_n hx hb dX3_putDigits_11 rfl (lv_at hl 2 rfl) ?_
        refine lv_iload hx hb dX3_putDigits_12 (lv_at hl 0 rfl) ?_
        refine lv_ishr hx hb dX3_putDigits_14 ?_
        refine lv_iconst (v := nI 1) hx hb dX3_putDigits_15 (by decide) ?_
        refine lv_iand hx hb dX3_putDigits_16 ?_
        refine lv_iload_n hx hb dX3_putDigits_17 rfl (lv_at hl 4 rfl) ?_
        have hF := va_free (wc := [(h0, .inr (2, [.ref a1, .ref a2, .ref a3, .ref a4, .int (nI m9), .int ah])), (a1, .inl (kA 0, 400, .inl gb)), (a2, .inl (kA 0, 400, .inl gw)), (a3, .inl (kA 1, 400, .inl gk)), (a4, .inl (kA 0, 400, .inl gd))]) hD hS hA [0, 1, 2, 3, 4] rfl
        refine va_callv (va_runV (As := [.int ((x >>> ((nI (q9 - 1)) &&& 31)) &&& (nI 1)), .int wv]) (rest := []) ⟨hx, hb, hml, hown, hts⟩ (c_X3_put_in l D kA z h0 a1 a2 a3 a4 m9 ah gb gw gk gd ((x >>> ((nI (q9 - 1)) &&& 31)) &&& (nI 1)) wv (by first | assumption | omega) _) (cwV 2 hts h_X3_putDigits_0 rfl rfl rfl (by decide +kernel) ⟨Nat.le_of_ble_eq_true rfl, Nat.le_of_ble_eq_true rfl⟩) (fPv hK hP hD hS hG hF [0, 1, 2, 3, 4] (by decide) rfl 0 2 rfl rfl rfl) rfl rfl hl.1 rfl (lv_room (Nat.le_of_ble_eq_true rfl)) dX3_putDigits_18 ⟨Nat.le_of_ble_eq_true rfl, Nat.le_of_ble_eq_true rfl⟩) hS (fun q _ h => hF q h) hF (fun w1 t H locs ht hvm hw hB hz1 hk1 hS => ?_)
        obtain ⟨hP, hD⟩ := fJ (wr := []) hP hD [0, 1, 2, 3, 4] [] rfl rfl (by decide) (by decide) hk1 hF ht hB
        try dsimp only at hw
        subst hw
        have hP : va_P D vwCl [(h0, .inr (2, [.ref a1, .ref a2, .ref a3, .ref a4, .int (nI (m9 + 1)), .int ah])), (a1, .inl (kA 0, 400, .inl (upd gb m9 ((x >>> ((nI (q9 - 1)) &&& 31)) &&& (nI 1))))), (a2, .inl (kA 0, 400, .inl (upd gw m9 wv))), (a3, .inl (kA 1, 400, .inl (upd gk m9 (nI 0)))), (a4, .inl (kA 0, 400, .inl (upd gd m9 (nI 0))))] H := hP
        have hD : va_D A [(h0, .inr (2, [.ref a1, .ref a2, .ref a3, .ref a4, .int (nI (m9 + 1)), .int ah])), (a1, .inl (kA 0, 400, .inl (upd gb m9 ((x >>> ((nI (q9 - 1)) &&& 31)) &&& (nI 1))))), (a2, .inl (kA 0, 400, .inl (upd gw m9 wv))), (a3, .inl (kA 1, 400, .inl (upd gk m9 (nI 0)))), (a4, .inl (kA 0, 400, .inl (upd gd m9 (nI 0))))] := hD
        refine lv_iinc (v := sh (q9 - 1)) (lv' := [(4, .int (sh (q9 - 1))), (0, .ref h0), (1, .int x), (2, .int (nI cn)), (3, .int wv)]) hx hb dX3_putDigits_21 hl (k := 0) rfl (qm1 _) (by decide) rfl (fun ls hl => ?_)
        refine lv_goto (tgt := 5) hx hb dX3_putDigits_24 (by decide) ?_
        exact ih_5 (q9 - 1) (m9 + 1) (upd gb m9 ((x >>> ((nI (q9 - 1)) &&& 31)) &&& (nI 1))) (upd gw m9 wv) (upd gk m9 (nI 0)) (upd gd m9 (nI 0)) (by omega) (pD_s hp9 e7) _ _ _ (hP.sub [0, 1, 2, 3, 4] rfl) (hD.sub [0, 1, 2, 3, 4] (by decide) rfl) hS (lv_sub hl [0, 1, 2, 3, 4] rfl)
  exact lp_5 (cn + 1) cn n fb fw fk fd (by omega) (pD_0 _ _ _ _ _ _ _ _) _ _ _ (hP.sub [0, 1, 2, 3, 4] rfl) (hD.sub [0, 1, 2, 3, 4] (by decide) rfl) hS (lv_sub hl [0, 1, 2, 3, 4] rfl)

def wq_X3_putMark : List Cond := .code yX3_putMark cX3_putMark 2 none :: (([.methodLink RX3 32 yX3_putDigits, .instanceMethod yX3_putDigits, .selects RX3 yX3_putDigits yX3_putDigits, .initialized RX3, .fieldLink RX3 29 "FluxBench$Surface" "bitAhead" "I"] : List Cond) ++ (u_ws RX3 TX3 6 ++ (wq_X3_putDigits ++ ([] : List Cond))))
theorem gd_X3_putMark : wq_X3_putMark.all goodWord = true := by decide +kernel
theorem n_X3_putMark_X3 : ∀ w ∈ u_ws RX3 TX3 6, w ∈ wq_X3_putMark := fun w h => List.mem_cons_of_mem _ (List.mem_append_right _ (List.mem_append_left _ h))
theorem h_X3_putMark_0 : GoodIn wq_X3_putMark (wsV RX3 32 RX3 yX3_putDigits wq_X3_putDigits) := goodIn_app (goodIn_r _ [1, 2, 3, 4] (by decide +kernel) (by decide +kernel)) (goodIn_sub (fun w h => List.mem_cons_of_mem _ (List.mem_append_right _ (List.mem_append_right _ (List.mem_append_left _ h)))) gd_X3_putDigits)
set_option maxHeartbeats 4000000 in
set_option maxRecDepth 100000 in
theorem c_X3_putMark (l : Launch) (D : va_G) (kA : Nat → ClassId) (z : Nat) (h0 a1 a2 a3 a4 n : Nat) (ah : Int32) (fb fw fk fd : Nat → Int32) (wv : Int32) (h1 : n + 10 ≤ 400) : mV l D (tyL kA) z yX3_putMark wq_X3_putMark ({ frames := 2, cells := 0, slots := 0, locals := 46 }) [.ref h0, .int wv] [(h0, .inr (2, [.ref a1, .ref a2, .ref a3, .ref a4, .int (nI n), .int ah])), (a1, .inl (kA 0, 400, .inl fb)), (a2, .inl (kA 0, 400, .inl fw)), (a3, .inl (kA 1, 400, .inl fk)), (a4, .inl (kA 0, 400, .inl fd))] (fun w => ∃ (n2 : Nat) (fb2 fw2 fk2 fd2 : Nat → Int32), w = [(h0, .inr (2, [.ref a1, .ref a2, .ref a3, .ref a4, .int (nI n2), .int (nI 0)])), (a1, .inl (kA 0, 400, .inl fb2)), (a2, .inl (kA 0, 400, .inl fw2)), (a3, .inl (kA 1, 400, .inl fk2)), (a4, .inl (kA 0, 400, .inl fd2))] ∧ (n2 = n + 10) ∧ (xE n n2 wv fw fw2 fk fk2 fd fd2) ∧ (fb2 n = nI 1) ∧ (fb2 (n + 4) = nI 0) ∧ (fb2 (n + 9) = nI 1)) := by
  refine ofV (cc := cX3_putMark) (maxL := 2) RX3 rfl (by decide +kernel) rfl (Nat.le_of_ble_eq_true rfl) ?_
  intro p e s m args below meth c A ls hnm hE
  obtain ⟨hx, hb, hr, hml, hts, hown, hlocks, hA, hS, hP, hK, hD, hG, hl⟩ := hE
  have hl : lv_has ls 2 [(0, .ref h0), (1, .int wv)] := hl
  have hH : s.heap = s.heap := rfl
  refine lv_aload_n hx hb dX3_putMark_0 rfl (lv_at hl 0 rfl) ?_
  refine lv_sipush (v := nI 529) hx hb dX3_putMark_1 (by decide) ?_
  refine lv_bipush (v := nI 10) hx hb dX3_putMark_4 (by decide) ?_
  refine lv_iload_n hx hb dX3_putMark_6 rfl (lv_at hl 1 rfl) ?_
  have hF := va_free (wc := [(h0, .inr (2, [.ref a1, .ref a2, .ref a3, .ref a4, .int (nI n), .int ah])), (a1, .inl (kA 0, 400, .inl fb)), (a2, .inl (kA 0, 400, .inl fw)), (a3, .inl (kA 1, 400, .inl fk)), (a4, .inl (kA 0, 400, .inl fd))]) hD hS hA [0, 1, 2, 3, 4] rfl
  refine va_callv (va_runV (As := [.int (nI 529), .int (nI 10), .int wv]) (rest := []) ⟨hx, hb, hml, hown, hts⟩ (c_X3_putDigits l D kA z h0 a1 a2 a3 a4 n ah fb fw fk fd (nI 529) wv 10 (by first | assumption | omega) (by first | assumption | omega) (by first | assumption | omega) _) (cwV 3 hts h_X3_putMark_0 rfl rfl rfl (by decide +kernel) ⟨Nat.le_of_ble_eq_true rfl, Nat.le_of_ble_eq_true rfl⟩) (fPv hK hP hD hS hG hF [0, 1, 2, 3, 4] (by decide) rfl 0 2 rfl rfl rfl) rfl rfl hl.1 rfl (lv_room (Nat.le_of_ble_eq_true rfl)) dX3_putMark_7 ⟨Nat.le_of_ble_eq_true rfl, Nat.le_of_ble_eq_true rfl⟩) hS (fun q _ h => hF q h) hF (fun w1 t H locs ht hvm hw hB hz1 hk1 hS => ?_)
  obtain ⟨hP, hD⟩ := fJ (wr := []) hP hD [0, 1, 2, 3, 4] [] rfl rfl (by decide) (by decide) hk1 hF ht hB
  try dsimp only at hw
  obtain ⟨n_1, fb_1, fw_1, fk_1, fd_1, rfl, q_1⟩ := hw
  have hP : va_P D vwCl [(h0, .inr (2, [.ref a1, .ref a2, .ref a3, .ref a4, .int (nI n_1), .int ah])), (a1, .inl (kA 0, 400, .inl fb_1)), (a2, .inl (kA 0, 400, .inl fw_1)), (a3, .inl (kA 1, 400, .inl fk_1)), (a4, .inl (kA 0, 400, .inl fd_1))] H := hP
  have hD : va_D A [(h0, .inr (2, [.ref a1, .ref a2, .ref a3, .ref a4, .int (nI n_1), .int ah])), (a1, .inl (kA 0, 400, .inl fb_1)), (a2, .inl (kA 0, 400, .inl fw_1)), (a3, .inl (kA 1, 400, .inl fk_1)), (a4, .inl (kA 0, 400, .inl fd_1))] := hD
  refine lv_aload_n hx hb dX3_putMark_10 rfl (lv_at hl 0 rfl) ?_
  refine lv_iconst (v := nI 0) hx hb dX3_putMark_11 (by decide) ?_
  refine va_put (D := D) (ci := 2) (v := .int (nI 0)) (ty := .int) (C := RX3) (T := TX3) (N := 6) hx hb hts n_X3_putMark_X3 tyX3 tyX3_ok nmX3 hown hK hP hD hS 0 rfl rfl 5 (by decide) (wAt hts 5 (w := .fieldLink RX3 29 "FluxBench$Surface" "bitAhead" "I") rfl) (fun _ h9 => h9) rfl (by decide +kernel) rfl rfl (Nat.le_of_ble_eq_true rfl) dX3_putMark_12 (fun H locs hP hD hS => ?_)
  have hP : va_P D vwCl [(h0, .inr (2, [.ref a1, .ref a2, .ref a3, .ref a4, .int (nI n_1), .int (nI 0)])), (a1, .inl (kA 0, 400, .inl fb_1)), (a2, .inl (kA 0, 400, .inl fw_1)), (a3, .inl (kA 1, 400, .inl fk_1)), (a4, .inl (kA 0, 400, .inl fd_1))] H := hP
  have hD : va_D A [(h0, .inr (2, [.ref a1, .ref a2, .ref a3, .ref a4, .int (nI n_1), .int (nI 0)])), (a1, .inl (kA 0, 400, .inl fb_1)), (a2, .inl (kA 0, 400, .inl fw_1)), (a3, .inl (kA 1, 400, .inl fk_1)), (a4, .inl (kA 0, 400, .inl fd_1))] := hD
  exact endV hx hb hr hlocks hK hP hD hS (⟨n_1, fb_1, fw_1, fk_1, fd_1, rfl, q_1.2.1, q_1.2.2.1, (q_1.2.2.2.2 0 (by decide)).trans (by decide), (q_1.2.2.2.2 4 (by decide)).trans (by decide), (q_1.2.2.2.2 9 (by decide)).trans (by decide)⟩) (Nat.le_of_ble_eq_true rfl) (Nat.le_of_ble_eq_true rfl) dX3_putMark_15

def wq_X3_putByte : List Cond := .code yX3_putByte cX3_putByte 7 none :: (([.methodLink RX3 42 yX3_put, .instanceMethod yX3_put, .selects RX3 yX3_put yX3_put, .initialized RX3, .fieldLink RX3 29 "FluxBench$Surface" "bitAhead" "I", .methodLink RX3 38 yX0_groupOf, .static yX0_groupOf, .initialized RX0, .methodLink RX3 32 yX3_putDigits, .instanceMethod yX3_putDigits, .selects RX3 yX3_putDigits yX3_putDigits] : List Cond) ++ (u_ws RX3 TX3 6 ++ (wq_X3_put_in ++ (wq_X0_groupOf ++ (wq_X3_putDigits ++ ([] : List Cond))))))
theorem gd_X3_putByte : wq_X3_putByte.all goodWord = true := by decide +kernel
theorem n_X3_putByte_X3 : ∀ w ∈ u_ws RX3 TX3 6, w ∈ wq_X3_putByte := fun w h => List.mem_cons_of_mem _ (List.mem_append_right _ (List.mem_append_left _ h))
theorem h_X3_putByte_0 : GoodIn wq_X3_putByte (wsV RX3 42 RX3 yX3_put wq_X3_put_in) := goodIn_app (goodIn_r _ [1, 2, 3, 4] (by decide +kernel) (by decide +kernel)) (goodIn_sub (fun w h => List.mem_cons_of_mem _ (List.mem_append_right _ (List.mem_append_right _ (List.mem_append_left _ h)))) gd_X3_put_in)
theorem h_X3_putByte_1 : GoodIn wq_X3_putByte (va_wsS RX3 38 yX0_groupOf wq_X0_groupOf) := goodIn_app (goodIn_r _ [6, 7, 8] (by decide +kernel) (by decide +kernel)) (goodIn_sub (fun w h => List.mem_cons_of_mem _ (List.mem_append_right _ (List.mem_append_right _ (List.mem_append_right _ (List.mem_append_left _ h))))) gd_X0_groupOf)
theorem h_X3_putByte_2 : GoodIn wq_X3_putByte (wsV RX3 32 RX3 yX3_putDigits wq_X3_putDigits) := goodIn_app (goodIn_r _ [9, 10, 11, 4] (by decide +kernel) (by decide +kernel)) (goodIn_sub (fun w h => List.mem_cons_of_mem _ (List.mem_append_right _ (List.mem_append_right _ (List.mem_append_right _ (List.mem_append_right _ (List.mem_append_left _ h)))))) gd_X3_putDigits)
set_option maxHeartbeats 4000000 in
set_option maxRecDepth 100000 in
theorem c_X3_putByte (l : Launch) (D : va_G) (kA : Nat → ClassId) (z : Nat) (h0 a1 a2 a3 a4 n : Nat) (ah : Int32) (fb fw fk fd : Nat → Int32) (v wv : Int32) (cd : Nat) (hc : cd ≤ 2) (h1 : n + cB cd ≤ 400) : mV l D (tyL kA) z yX3_putByte wq_X3_putByte ({ frames := 2, cells := 0, slots := 0, locals := 46 }) [.ref h0, .int (nI cd), .int v, .int wv] [(h0, .inr (2, [.ref a1, .ref a2, .ref a3, .ref a4, .int (nI n), .int ah])), (a1, .inl (kA 0, 400, .inl fb)), (a2, .inl (kA 0, 400, .inl fw)), (a3, .inl (kA 1, 400, .inl fk)), (a4, .inl (kA 0, 400, .inl fd))] (fun w => ∃ (n2 : Nat) (ah2 : Int32) (fb2 fw2 fk2 fd2 : Nat → Int32), w = [(h0, .inr (2, [.ref a1, .ref a2, .ref a3, .ref a4, .int (nI n2), .int ah2])), (a1, .inl (kA 0, 400, .inl fb2)), (a2, .inl (kA 0, 400, .inl fw2)), (a3, .inl (kA 1, 400, .inl fk2)), (a4, .inl (kA 0, 400, .inl fd2))] ∧ (n2 = n + cB cd) ∧ (xE n n2 wv fw fw2 fk fk2 fd fd2)) := by
  refine ofV (cc := cX3_putByte) (maxL := 7) RX3 rfl (by decide +kernel) rfl (Nat.le_of_ble_eq_true rfl) ?_
  intro p e s m args below meth c A ls hnm hE
  obtain ⟨hx, hb, hr, hml, hts, hown, hlocks, hA, hS, hP, hK, hD, hG, hl⟩ := hE
  have hl : lv_has ls 7 [(0, .ref h0), (1, .int (nI cd)), (2, .int v), (3, .int wv)] := hl
  have hH : s.heap = s.heap := rfl
  refine lv_iload_n hx hb dX3_putByte_0 rfl (lv_at hl 1 rfl) ?_
  refine lv_iconst (v := nI 2) hx hb dX3_putByte_1 (by decide) ?_
  refine lv_icmp_ne (tgt := 32) hx hb dX3_putByte_2 (by decide) (fun c2 => ?_) (fun c2 => ?_)
  ·
    rw [qeq (a := cd) (b := 2) (by omega) (by omega)] at c2
    have hcb := cB_n c2
    refine lv_bipush (v := nI 7) hx hb dX3_putByte_32 (by decide) ?_
    refine lv_istore (lv' := [(4, .int (nI 7)), (0, .ref h0), (1, .int (nI cd)), (2, .int v), (3, .int wv)]) hx hb dX3_putByte_34 hl (by decide) rfl (fun ls hl => ?_)
    rw [show nI 7 = sh 8 from by decide] at hl
    have lp_36 : ∀ (n_36 : Nat) (q9 : Nat) (m9 : Nat) (ag : Int32) (gb : Nat → Int32) (gw : Nat → Int32) (gk : Nat → Int32) (gd : Nat → Int32), q9 < n_36 → (q9 ≤ 8) → (m9 = n + 2 * (8 - q9)) → (xE n m9 wv fw gw fk gk fd gd) → ∀ (H : Heap) (locs : List Loc) (ls : Array Slot), va_P D vwCl [(h0, .inr (2, [.ref a1, .ref a2, .ref a3, .ref a4, .int (nI m9), .int ag])), (a1, .inl (kA 0, 400, .inl gb)), (a2, .inl (kA 0, 400, .inl gw)), (a3, .inl (kA 1, 400, .inl gk)), (a4, .inl (kA 0, 400, .inl gd))] H → va_D A [(h0, .inr (2, [.ref a1, .ref a2, .ref a3, .ref a4, .int (nI m9), .int ag])), (a1, .inl (kA 0, 400, .inl gb)), (a2, .inl (kA 0, 400, .inl gw)), (a3, .inl (kA 1, 400, .inl gk)), (a4, .inl (kA 0, 400, .inl gd))] → va_S A s.heap H locs → lv_has ls 7 [(4, .int (sh q9)), (0, .ref h0), (1, .int (nI cd)), (2, .int v), (3, .int wv)] → W p l e ({ frames := 2, cells := 0, slots := 0, locals := 46 }) s m args below meth c H locs 0 0 (MQ below (va_Qv (fun w => ∃ (n2 : Nat) (ah2 : Int32) (fb2 fw2 fk2 fd2 : Nat → Int32), w = [(h0, .inr (2, [.ref a1, .ref a2, .ref a3, .ref a4, .int (nI n2), .int ah2])), (a1, .inl (kA 0, 400, .inl fb2)), (a2, .inl (kA 0, 400, .inl fw2)), (a3, .inl (kA 1, 400, .inl fk2)), (a4, .inl (kA 0, 400, .inl fd2))] ∧ (n2 = n + cB cd) ∧ (xE n n2 wv fw fw2 fk fk2 fd fd2)) (fB D (tyL kA) A) A) args s 0 0 A) (F0 m 36 ls []) := by
      clear hP hD hS hl
      intro n_36
      induction n_36 with
      | zero =>
        intro q9 m9 ag gb gw gk gd hm_36 hq8 hm8 hx8
        exact absurd hm_36 (by omega)
      | succ n_36 ih_36 =>
        intro q9 m9 ag gb gw gk gd hm_36 hq8 hm8 hx8 H locs ls hP hD hS hl
        refine lv_iload hx hb dX3_putByte_36 (lv_at hl 0 rfl) ?_
        rcases Nat.eq_zero_or_pos q9 with e7 | e7
        ·
          refine lv_if_lt (tgt := 107) hx hb dX3_putByte_38 (by decide) (fun _ => ?_) (fun c7 => absurd (by rw [e7]; decide) c7)
          exact endV hx hb hr hlocks hK hP hD hS (⟨m9, ag, gb, gw, gk, gd, rfl, by omega, hx8⟩) (Nat.le_of_ble_eq_true rfl) (Nat.le_of_ble_eq_true rfl) dX3_putByte_107
        ·
          have e8 : sh q9 = nI (q9 - 1) := sh_pos e7
          rw [e8] at hl
          rw [e8]
          refine lv_if_lt (tgt := 107) hx hb dX3_putByte_38 (by decide) (fun c7 => absurd c7 (nI_pos (by omega))) (fun _ => ?_)
          refine lv_iload_n hx hb dX3_putByte_41 rfl (lv_at hl 3 rfl) ?_
          refine lv_iload hx hb dX3_putByte_42 (lv_at hl 0 rfl) ?_
          refine lv_ishr hx hb dX3_putByte_44 ?_
          refine lv_iconst (v := nI 1) hx hb dX3_putByte_45 (by decide) ?_
          refine lv_iand hx hb dX3_putByte_46 ?_
          refine lv_istore (lv' := [(5, .int ((v >>> ((nI (q9 - 1)) &&& 31)) &&& (nI 1))), (4, .int (nI (q9 - 1))), (0, .ref h0), (1, .int (nI cd)), (2, .int v), (3, .int wv)]) hx hb dX3_putByte_47 hl (by decide) rfl (fun ls hl => ?_)
          have jn_71 : ∀ (k9 : Nat) (_ : True), (k9 ≤ 1) → ∀ (H : Heap) (locs : List Loc) (ls : Array Slot), va_P D vwCl [(h0, .inr (2, [.ref a1, .ref a2, .ref a3, .ref a4, .int (nI m9), .int ag])), (a1, .inl (kA 0, 400, .inl gb)), (a2, .inl (kA 0, 400, .inl gw)), (a3, .inl (kA 1, 400, .inl gk)), (a4, .inl (kA 0, 400, .inl gd))] H → va_D A [(h0, .inr (2, [.ref a1, .ref a2, .ref a3, .ref a4, .int (nI m9), .int ag])), (a1, .inl (kA 0, 400, .inl gb)), (a2, .inl (kA 0, 400, .inl gw)), (a3, .inl (kA 1, 400, .inl gk)), (a4, .inl (kA 0, 400, .inl gd))] → va_S A s.heap H locs → lv_has ls 7 [(5, .int ((v >>> ((nI (q9 - 1)) &&& 31)) &&& (nI 1))), (4, .int (nI (q9 - 1))), (0, .ref h0), (1, .int (nI cd)), (2, .int v), (3, .int wv)] → W p l e ({ frames := 2, cells := 0, slots := 0, locals := 46 }) s m args below meth c H locs 0 0 (MQ below (va_Qv (fun w => ∃ (n2 : Nat) (ah2 : Int32) (fb2 fw2 fk2 fd2 : Nat → Int32), w = [(h0, .inr (2, [.ref a1, .ref a2, .ref a3, .ref a4, .int (nI n2), .int ah2])), (a1, .inl (kA 0, 400, .inl fb2)), (a2, .inl (kA 0, 400, .inl fw2)), (a3, .inl (kA 1, 400, .inl fk2)), (a4, .inl (kA 0, 400, .inl fd2))] ∧ (n2 = n + cB cd) ∧ (xE n n2 wv fw fw2 fk fk2 fd fd2)) (fB D (tyL kA) A) A) args s 0 0 A) (F0 m 71 ls [.int (nI k9)]) := by
            clear hP hD hS hl
            intro k9 _ hk9 H locs ls hP hD hS hl
            refine lv_istore (lv' := [(6, .int (nI k9)), (5, .int ((v >>> ((nI (q9 - 1)) &&& 31)) &&& (nI 1))), (4, .int (nI (q9 - 1))), (0, .ref h0), (1, .int (nI cd)), (2, .int v), (3, .int wv)]) hx hb dX3_putByte_71 hl (by decide) rfl (fun ls hl => ?_)
            refine lv_aload_n hx hb dX3_putByte_73 rfl (lv_at hl 3 rfl) ?_
            refine lv_iload hx hb dX3_putByte_74 (lv_at hl 0 rfl) ?_
            refine lv_if_eq (tgt := 83) hx hb dX3_putByte_76 (by decide) (fun c76 => ?_) (fun c76 => ?_)
            ·
              rw [qz (a := k9) (by omega)] at c76
              refine lv_iconst (v := nI 0) hx hb dX3_putByte_83 (by decide) ?_
              refine lv_iload_n hx hb dX3_putByte_84 rfl (lv_at hl 6 rfl) ?_
              have hF := va_free (wc := [(h0, .inr (2, [.ref a1, .ref a2, .ref a3, .ref a4, .int (nI m9), .int ag])), (a1, .inl (kA 0, 400, .inl gb)), (a2, .inl (kA 0, 400, .inl gw)), (a3, .inl (kA 1, 400, .inl gk)), (a4, .inl (kA 0, 400, .inl gd))]) hD hS hA [0, 1, 2, 3, 4] rfl
              refine va_callv (va_runV (As := [.int (nI 0), .int wv]) (rest := []) ⟨hx, hb, hml, hown, hts⟩ (c_X3_put_in l D kA z h0 a1 a2 a3 a4 m9 ag gb gw gk gd (nI 0) wv (by first | assumption | omega) _) (cwV 2 hts h_X3_putByte_0 rfl rfl rfl (by decide +kernel) ⟨Nat.le_of_ble_eq_true rfl, Nat.le_of_ble_eq_true rfl⟩) (fPv hK hP hD hS hG hF [0, 1, 2, 3, 4] (by decide) rfl 0 2 rfl rfl rfl) rfl rfl hl.1 rfl (lv_room (Nat.le_of_ble_eq_true rfl)) dX3_putByte_85 ⟨Nat.le_of_ble_eq_true rfl, Nat.le_of_ble_eq_true rfl⟩) hS (fun q _ h => hF q h) hF (fun w1 t H locs ht hvm hw hB hz1 hk1 hS => ?_)
              obtain ⟨hP, hD⟩ := fJ (wr := []) hP hD [0, 1, 2, 3, 4] [] rfl rfl (by decide) (by decide) hk1 hF ht hB
              try dsimp only at hw
              subst hw
              have hP : va_P D vwCl [(h0, .inr (2, [.ref a1, .ref a2, .ref a3, .ref a4, .int (nI (m9 + 1)), .int ag])), (a1, .inl (kA 0, 400, .inl (upd gb m9 (nI 0)))), (a2, .inl (kA 0, 400, .inl (upd gw m9 wv))), (a3, .inl (kA 1, 400, .inl (upd gk m9 (nI 0)))), (a4, .inl (kA 0, 400, .inl (upd gd m9 (nI 0))))] H := hP
              have hD : va_D A [(h0, .inr (2, [.ref a1, .ref a2, .ref a3, .ref a4, .int (nI (m9 + 1)), .int ag])), (a1, .inl (kA 0, 400, .inl (upd gb m9 (nI 0)))), (a2, .inl (kA 0, 400, .inl (upd gw m9 wv))), (a3, .inl (kA 1, 400, .inl (upd gk m9 (nI 0)))), (a4, .inl (kA 0, 400, .inl (upd gd m9 (nI 0))))] := hD
              refine lv_aload_n hx hb dX3_putByte_88 rfl (lv_at hl 3 rfl) ?_
              refine lv_iload hx hb dX3_putByte_89 (lv_at hl 1 rfl) ?_
              refine lv_iload_n hx hb dX3_putByte_91 rfl (lv_at hl 6 rfl) ?_
              have hF := va_free (wc := [(h0, .inr (2, [.ref a1, .ref a2, .ref a3, .ref a4, .int (nI (m9 + 1)), .int ag])), (a1, .inl (kA 0, 400, .inl (upd gb m9 (nI 0)))), (a2, .inl (kA 0, 400, .inl (upd gw m9 wv))), (a3, .inl (kA 1, 400, .inl (upd gk m9 (nI 0)))), (a4, .inl (kA 0, 400, .inl (upd gd m9 (nI 0))))]) hD hS hA [0, 1, 2, 3, 4] rfl
              refine va_callv (va_runV (As := [.int ((v >>> ((nI (q9 - 1)) &&& 31)) &&& (nI 1)), .int wv]) (rest := []) ⟨hx, hb, hml, hown, hts⟩ (c_X3_put_in l D kA z h0 a1 a2 a3 a4 (m9 + 1) ag (upd gb m9 (nI 0)) (upd gw m9 wv) (upd gk m9 (nI 0)) (upd gd m9 (nI 0)) ((v >>> ((nI (q9 - 1)) &&& 31)) &&& (nI 1)) wv (by first | assumption | omega) _) (cwV 2 hts h_X3_putByte_0 rfl rfl rfl (by decide +kernel) ⟨Nat.le_of_ble_eq_true rfl, Nat.le_of_ble_eq_true rfl⟩) (fPv hK hP hD hS hG hF [0, 1, 2, 3, 4] (by decide) rfl 0 2 rfl rfl rfl) rfl rfl hl.1 rfl (lv_room (Nat.le_of_ble_eq_true rfl)) dX3_putByte_92 ⟨Nat.le_of_ble_eq_true rfl, Nat.le_of_ble_eq_true rfl⟩) hS (fun q _ h => hF q h) hF (fun w1 t H locs ht hvm hw hB hz1 hk1 hS => ?_)
              obtain ⟨hP, hD⟩ := fJ (wr := []) hP hD [0, 1, 2, 3, 4] [] rfl rfl (by decide) (by decide) hk1 hF ht hB
              try dsimp only at hw
              subst hw
              have hP : va_P D vwCl [(h0, .inr (2, [.ref a1, .ref a2, .ref a3, .ref a4, .int (nI ((m9 + 1) + 1)), .int ag])), (a1, .inl (kA 0, 400, .inl (upd (upd gb m9 (nI 0)) (m9 + 1) ((v >>> ((nI (q9 - 1)) &&& 31)) &&& (nI 1))))), (a2, .inl (kA 0, 400, .inl (upd (upd gw m9 wv) (m9 + 1) wv))), (a3, .inl (kA 1, 400, .inl (upd (upd gk m9 (nI 0)) (m9 + 1) (nI 0)))), (a4, .inl (kA 0, 400, .inl (upd (upd gd m9 (nI 0)) (m9 + 1) (nI 0))))] H := hP
              have hD : va_D A [(h0, .inr (2, [.ref a1, .ref a2, .ref a3, .ref a4, .int (nI ((m9 + 1) + 1)), .int ag])), (a1, .inl (kA 0, 400, .inl (upd (upd gb m9 (nI 0)) (m9 + 1) ((v >>> ((nI (q9 - 1)) &&& 31)) &&& (nI 1))))), (a2, .inl (kA 0, 400, .inl (upd (upd gw m9 wv) (m9 + 1) wv))), (a3, .inl (kA 1, 400, .inl (upd (upd gk m9 (nI 0)) (m9 + 1) (nI 0)))), (a4, .inl (kA 0, 400, .inl (upd (upd gd m9 (nI 0)) (m9 + 1) (nI 0))))] := hD
              refine lv_aload_n hx hb dX3_putByte_95 rfl (lv_at hl 3 rfl) ?_
              refine lv_iload hx hb dX3_putByte_96 (lv_at hl 1 rfl) ?_
              refine va_put (D := D) (ci := 2) (v := .int ((v >>> ((nI (q9 - 1)) &&& 31)) &&& (nI 1))) (ty := .int) (C := RX3) (T := TX3) (N := 6) hx hb hts n_X3_putByte_X3 tyX3 tyX3_ok nmX3 hown hK hP hD hS 0 rfl rfl 5 (by decide) (wAt hts 5 (w := .fieldLink RX3 29 "FluxBench$Surface" "bitAhead" "I") rfl) (fun _ h9 => h9) rfl (by decide +kernel) rfl rfl (Nat.le_of_ble_eq_true rfl) dX3_putByte_98 (fun H locs hP hD hS => ?_)
              have hP : va_P D vwCl [(h0, .inr (2, [.ref a1, .ref a2, .ref a3, .ref a4, .int (nI ((m9 + 1) + 1)), .int ((v >>> ((nI (q9 - 1)) &&& 31)) &&& (nI 1))])), (a1, .inl (kA 0, 400, .inl (upd (upd gb m9 (nI 0)) (m9 + 1) ((v >>> ((nI (q9 - 1)) &&& 31)) &&& (nI 1))))), (a2, .inl (kA 0, 400, .inl (upd (upd gw m9 wv) (m9 + 1) wv))), (a3, .inl (kA 1, 400, .inl (upd (upd gk m9 (nI 0)) (m9 + 1) (nI 0)))), (a4, .inl (kA 0, 400, .inl (upd (upd gd m9 (nI 0)) (m9 + 1) (nI 0))))] H := hP
              have hD : va_D A [(h0, .inr (2, [.ref a1, .ref a2, .ref a3, .ref a4, .int (nI ((m9 + 1) + 1)), .int ((v >>> ((nI (q9 - 1)) &&& 31)) &&& (nI 1))])), (a1, .inl (kA 0, 400, .inl (upd (upd gb m9 (nI 0)) (m9 + 1) ((v >>> ((nI (q9 - 1)) &&& 31)) &&& (nI 1))))), (a2, .inl (kA 0, 400, .inl (upd (upd gw m9 wv) (m9 + 1) wv))), (a3, .inl (kA 1, 400, .inl (upd (upd gk m9 (nI 0)) (m9 + 1) (nI 0)))), (a4, .inl (kA 0, 400, .inl (upd (upd gd m9 (nI 0)) (m9 + 1) (nI 0))))] := hD
              refine lv_iinc (v := sh (q9 - 1)) (lv' := [(4, .int (sh (q9 - 1))), (6, .int (nI k9)), (5, .int ((v >>> ((nI (q9 - 1)) &&& 31)) &&& (nI 1))), (0, .ref h0), (1, .int (nI cd)), (2, .int v), (3, .int wv)]) hx hb dX3_putByte_101 hl (k := 2) rfl (qm1 _) (by decide) rfl (fun ls hl => ?_)
              refine lv_goto (tgt := 36) hx hb dX3_putByte_104 (by decide) ?_
              exact ih_36 (q9 - 1) ((m9 + 1) + 1) ((v >>> ((nI (q9 - 1)) &&& 31)) &&& (nI 1)) (upd (upd gb m9 (nI 0)) (m9 + 1) ((v >>> ((nI (q9 - 1)) &&& 31)) &&& (nI 1))) (upd (upd gw m9 wv) (m9 + 1) wv) (upd (upd gk m9 (nI 0)) (m9 + 1) (nI 0)) (upd (upd gd m9 (nI 0)) (m9 + 1) (nI 0)) (by omega) (by first | assumption | omega | rfl) (by first | assumption | omega | rfl) ((hx8.trans (by omega) (xE.put _ _ _ _ _)).trans (by omega) (xE.put _ _ _ _ _)) _ _ _ (hP.sub [0, 1, 2, 3, 4] rfl) (hD.sub [0, 1, 2, 3, 4] (by decide) rfl) hS (lv_sub hl [0, 3, 4, 5, 6] rfl)
            ·
              rw [qz (a := k9) (by omega)] at c76
              refine lv_iconst (v := nI 1) hx hb dX3_putByte_79 (by decide) ?_
              refine lv_goto (tgt := 84) hx hb dX3_putByte_80 (by decide) ?_
              refine lv_iload_n hx hb dX3_putByte_84 rfl (lv_at hl 6 rfl) ?_
              have hF := va_free (wc := [(h0, .inr (2, [.ref a1, .ref a2, .ref a3, .ref a4, .int (nI m9), .int ag])), (a1, .inl (kA 0, 400, .inl gb)), (a2, .inl (kA 0, 400, .inl gw)), (a3, .inl (kA 1, 400, .inl gk)), (a4, .inl (kA 0, 400, .inl gd))]) hD hS hA [0, 1, 2, 3, 4] rfl
              refine va_callv (va_runV (As := [.int (nI 1), .int wv]) (rest := []) ⟨hx, hb, hml, hown, hts⟩ (c_X3_put_in l D kA z h0 a1 a2 a3 a4 m9 ag gb gw gk gd (nI 1) wv (by first | assumption | omega) _) (cwV 2 hts h_X3_putByte_0 rfl rfl rfl (by decide +kernel) ⟨Nat.le_of_ble_eq_true rfl, Nat.le_of_ble_eq_true rfl⟩) (fPv hK hP hD hS hG hF [0, 1, 2, 3, 4] (by decide) rfl 0 2 rfl rfl rfl) rfl rfl hl.1 rfl (lv_room (Nat.le_of_ble_eq_true rfl)) dX3_putByte_85 ⟨Nat.le_of_ble_eq_true rfl, Nat.le_of_ble_eq_true rfl⟩) hS (fun q _ h => hF q h) hF (fun w1 t H locs ht hvm hw hB hz1 hk1 hS => ?_)
              obtain ⟨hP, hD⟩ := fJ (wr := []) hP hD [0, 1, 2, 3, 4] [] rfl rfl (by decide) (by decide) hk1 hF ht hB
              try dsimp only at hw
              subst hw
              have hP : va_P D vwCl [(h0, .inr (2, [.ref a1, .ref a2, .ref a3, .ref a4, .int (nI (m9 + 1)), .int ag])), (a1, .inl (kA 0, 400, .inl (upd gb m9 (nI 1)))), (a2, .inl (kA 0, 400, .inl (upd gw m9 wv))), (a3, .inl (kA 1, 400, .inl (upd gk m9 (nI 0)))), (a4, .inl (kA 0, 400, .inl (upd gd m9 (nI 0))))] H := hP
              have hD : va_D A [(h0, .inr (2, [.ref a1, .ref a2, .ref a3, .ref a4, .int (nI (m9 + 1)), .int ag])), (a1, .inl (kA 0, 400, .inl (upd gb m9 (nI 1)))), (a2, .inl (kA 0, 400, .inl (upd gw m9 wv))), (a3, .inl (kA 1, 400, .inl (upd gk m9 (nI 0)))), (a4, .inl (kA 0, 400, .inl (upd gd m9 (nI 0))))] := hD
              refine lv_aload_n hx hb dX3_putByte_88 rfl (lv_at hl 3 rfl) ?_
              refine lv_iload hx hb dX3_putByte_89 (lv_at hl 1 rfl) ?_
              refine lv_iload_n hx hb dX3_putByte_91 rfl (lv_at hl 6 rfl) ?_
              have hF := va_free (wc := [(h0, .inr (2, [.ref a1, .ref a2, .ref a3, .ref a4, .int (nI (m9 + 1)), .int ag])), (a1, .inl (kA 0, 400, .inl (upd gb m9 (nI 1)))), (a2, .inl (kA 0, 400, .inl (upd gw m9 wv))), (a3, .inl (kA 1, 400, .inl (upd gk m9 (nI 0)))), (a4, .inl (kA 0, 400, .inl (upd gd m9 (nI 0))))]) hD hS hA [0, 1, 2, 3, 4] rfl
              refine va_callv (va_runV (As := [.int ((v >>> ((nI (q9 - 1)) &&& 31)) &&& (nI 1)), .int wv]) (rest := []) ⟨hx, hb, hml, hown, hts⟩ (c_X3_put_in l D kA z h0 a1 a2 a3 a4 (m9 + 1) ag (upd gb m9 (nI 1)) (upd gw m9 wv) (upd gk m9 (nI 0)) (upd gd m9 (nI 0)) ((v >>> ((nI (q9 - 1)) &&& 31)) &&& (nI 1)) wv (by first | assumption | omega) _) (cwV 2 hts h_X3_putByte_0 rfl rfl rfl (by decide +kernel) ⟨Nat.le_of_ble_eq_true rfl, Nat.le_of_ble_eq_true rfl⟩) (fPv hK hP hD hS hG hF [0, 1, 2, 3, 4] (by decide) rfl 0 2 rfl rfl rfl) rfl rfl hl.1 rfl (lv_room (Nat.le_of_ble_eq_true rfl)) dX3_putByte_92 ⟨Nat.le_of_ble_eq_true rfl, Nat.le_of_ble_eq_true rfl⟩) hS (fun q _ h => hF q h) hF (fun w1 t H locs ht hvm hw hB hz1 hk1 hS => ?_)
              obtain ⟨hP, hD⟩ := fJ (wr := []) hP hD [0, 1, 2, 3, 4] [] rfl rfl (by decide) (by decide) hk1 hF ht hB
              try dsimp only at hw
              subst hw
              have hP : va_P D vwCl [(h0, .inr (2, [.ref a1, .ref a2, .ref a3, .ref a4, .int (nI ((m9 + 1) + 1)), .int ag])), (a1, .inl (kA 0, 400, .inl (upd (upd gb m9 (nI 1)) (m9 + 1) ((v >>> ((nI (q9 - 1)) &&& 31)) &&& (nI 1))))), (a2, .inl (kA 0, 400, .inl (upd (upd gw m9 wv) (m9 + 1) wv))), (a3, .inl (kA 1, 400, .inl (upd (upd gk m9 (nI 0)) (m9 + 1) (nI 0)))), (a4, .inl (kA 0, 400, .inl (upd (upd gd m9 (nI 0)) (m9 + 1) (nI 0))))] H := hP
              have hD : va_D A [(h0, .inr (2, [.ref a1, .ref a2, .ref a3, .ref a4, .int (nI ((m9 + 1) + 1)), .int ag])), (a1, .inl (kA 0, 400, .inl (upd (upd gb m9 (nI 1)) (m9 + 1) ((v >>> ((nI (q9 - 1)) &&& 31)) &&& (nI 1))))), (a2, .inl (kA 0, 400, .inl (upd (upd gw m9 wv) (m9 + 1) wv))), (a3, .inl (kA 1, 400, .inl (upd (upd gk m9 (nI 0)) (m9 + 1) (nI 0)))), (a4, .inl (kA 0, 400, .inl (upd (upd gd m9 (nI 0)) (m9 + 1) (nI 0))))] := hD
              refine lv_aload_n hx hb dX3_putByte_95 rfl (lv_at hl 3 rfl) ?_
              refine lv_iload hx hb dX3_putByte_96 (lv_at hl 1 rfl) ?_
              refine va_put (D := D) (ci := 2) (v := .int ((v >>> ((nI (q9 - 1)) &&& 31)) &&& (nI 1))) (ty := .int) (C := RX3) (T := TX3) (N := 6) hx hb hts n_X3_putByte_X3 tyX3 tyX3_ok nmX3 hown hK hP hD hS 0 rfl rfl 5 (by decide) (wAt hts 5 (w := .fieldLink RX3 29 "FluxBench$Surface" "bitAhead" "I") rfl) (fun _ h9 => h9) rfl (by decide +kernel) rfl rfl (Nat.le_of_ble_eq_true rfl) dX3_putByte_98 (fun H locs hP hD hS => ?_)
              have hP : va_P D vwCl [(h0, .inr (2, [.ref a1, .ref a2, .ref a3, .ref a4, .int (nI ((m9 + 1) + 1)), .int ((v >>> ((nI (q9 - 1)) &&& 31)) &&& (nI 1))])), (a1, .inl (kA 0, 400, .inl (upd (upd gb m9 (nI 1)) (m9 + 1) ((v >>> ((nI (q9 - 1)) &&& 31)) &&& (nI 1))))), (a2, .inl (kA 0, 400, .inl (upd (upd gw m9 wv) (m9 + 1) wv))), (a3, .inl (kA 1, 400, .inl (upd (upd gk m9 (nI 0)) (m9 + 1) (nI 0)))), (a4, .inl (kA 0, 400, .inl (upd (upd gd m9 (nI 0)) (m9 + 1) (nI 0))))] H := hP
              have hD : va_D A [(h0, .inr (2, [.ref a1, .ref a2, .ref a3, .ref a4, .int (nI ((m9 + 1) + 1)), .int ((v >>> ((nI (q9 - 1)) &&& 31)) &&& (nI 1))])), (a1, .inl (kA 0, 400, .inl (upd (upd gb m9 (nI 1)) (m9 + 1) ((v >>> ((nI (q9 - 1)) &&& 31)) &&& (nI 1))))), (a2, .inl (kA 0, 400, .inl (upd (upd gw m9 wv) (m9 + 1) wv))), (a3, .inl (kA 1, 400, .inl (upd (upd gk m9 (nI 0)) (m9 + 1) (nI 0)))), (a4, .inl (kA 0, 400, .inl (upd (upd gd m9 (nI 0)) (m9 + 1) (nI 0))))] := hD
              refine lv_iinc (v := sh (q9 - 1)) (lv' := [(4, .int (sh (q9 - 1))), (6, .int (nI k9)), (5, .int ((v >>> ((nI (q9 - 1)) &&& 31)) &&& (nI 1))), (0, .ref h0), (1, .int (nI cd)), (2, .int v), (3, .int wv)]) hx hb dX3_putByte_101 hl (k := 2) rfl (qm1 _) (by decide) rfl (fun ls hl => ?_)
              refine lv_goto (tgt := 36) hx hb dX3_putByte_104 (by decide) ?_
              exact ih_36 (q9 - 1) ((m9 + 1) + 1) ((v >>> ((nI (q9 - 1)) &&& 31)) &&& (nI 1)) (upd (upd gb m9 (nI 1)) (m9 + 1) ((v >>> ((nI (q9 - 1)) &&& 31)) &&& (nI 1))) (upd (upd gw m9 wv) (m9 + 1) wv) (upd (upd gk m9 (nI 0)) (m9 + 1) (nI 0)) (upd (upd gd m9 (nI 0)) (m9 + 1) (nI 0)) (by omega) (by first | assumption | omega | rfl) (by first | assumption | omega | rfl) ((hx8.trans (by omega) (xE.put _ _ _ _ _)).trans (by omega) (xE.put _ _ _ _ _)) _ _ _ (hP.sub [0, 1, 2, 3, 4] rfl) (hD.sub [0, 1, 2, 3, 4] (by decide) rfl) hS (lv_sub hl [0, 3, 4, 5, 6] rfl)
          refine lv_iload_n hx hb dX3_putByte_49 rfl (lv_at hl 3 rfl) ?_
          refine lv_iconst (v := nI 1) hx hb dX3_putByte_50 (by decide) ?_
          refine lv_icmp_ne (tgt := 66) hx hb dX3_putByte_51 (by decide) (fun c51 => ?_) (fun c51 => ?_)
          ·
            rw [qeq (a := cd) (b := 1) (by omega) (by omega)] at c51
            refine lv_iconst (v := nI 1) hx hb dX3_putByte_66 (by decide) ?_
            refine lv_goto (tgt := 71) hx hb dX3_putByte_67 (by decide) ?_
            exact jn_71 1 trivial (by first | assumption | omega | rfl) _ _ _ (hP.sub [0, 1, 2, 3, 4] rfl) (hD.sub [0, 1, 2, 3, 4] (by decide) rfl) hS (lv_sub hl [0, 1, 2, 3, 4, 5] rfl)
          ·
            rw [qeq (a := cd) (b := 1) (by omega) (by omega)] at c51
            refine lv_iload hx hb dX3_putByte_54 (lv_at hl 0 rfl) ?_
            refine lv_if_ne (tgt := 70) hx hb dX3_putByte_56 (by decide) (fun c56 => ?_) (fun c56 => ?_)
            ·
              refine lv_iconst (v := nI 0) hx hb dX3_putByte_70 (by decide) ?_
              exact jn_71 0 trivial (by first | assumption | omega | rfl) _ _ _ (hP.sub [0, 1, 2, 3, 4] rfl) (hD.sub [0, 1, 2, 3, 4] (by decide) rfl) hS (lv_sub hl [0, 1, 2, 3, 4, 5] rfl)
            ·
              refine lv_aload_n hx hb dX3_putByte_59 rfl (lv_at hl 2 rfl) ?_
              refine va_get (D := D) (ci := 2) (v := .int ag) (C := RX3) (T := TX3) (N := 6) hx hb hts n_X3_putByte_X3 hown hK hP 0 rfl rfl 5 (by decide) (wAt hts 5 (w := .fieldLink RX3 29 "FluxBench$Surface" "bitAhead" "I") rfl) (fun _ h9 => h9) rfl dX3_putByte_60 ?_
              refine lv_if_ne (tgt := 70) hx hb dX3_putByte_63 (by decide) (fun c63 => ?_) (fun c63 => ?_)
              ·
                refine lv_iconst (v := nI 0) hx hb dX3_putByte_70 (by decide) ?_
                exact jn_71 0 trivial (by first | assumption | omega | rfl) _ _ _ (hP.sub [0, 1, 2, 3, 4] rfl) (hD.sub [0, 1, 2, 3, 4] (by decide) rfl) hS (lv_sub hl [0, 1, 2, 3, 4, 5] rfl)
              ·
                refine lv_iconst (v := nI 1) hx hb dX3_putByte_66 (by decide) ?_
                refine lv_goto (tgt := 71) hx hb dX3_putByte_67 (by decide) ?_
                exact jn_71 1 trivial (by first | assumption | omega | rfl) _ _ _ (hP.sub [0, 1, 2, 3, 4] rfl) (hD.sub [0, 1, 2, 3, 4] (by decide) rfl) hS (lv_sub hl [0, 1, 2, 3, 4, 5] rfl)
    exact lp_36 9 8 n ah fb fw fk fd (by omega) (by first | assumption | omega | rfl) (by first | assumption | omega | rfl) (xE.refl _ _ _ _ _) _ _ _ (hP.sub [0, 1, 2, 3, 4] rfl) (hD.sub [0, 1, 2, 3, 4] (by decide) rfl) hS (lv_sub hl [0, 1, 2, 3, 4] rfl)
  ·
    rw [qeq (a := cd) (b := 2) (by omega) (by omega)] at c2
    have hcb := cB_2 c2
    refine lv_aload_n hx hb dX3_putByte_5 rfl (lv_at hl 0 rfl) ?_
    refine lv_iload_n hx hb dX3_putByte_6 rfl (lv_at hl 2 rfl) ?_
    refine lv_bipush (v := nI 16) hx hb dX3_putByte_7 (by decide) ?_
    refine lv_idiv hx hb dX3_putByte_9 (by decide) ?_
    have hF := va_free (wc := []) hD hS hA [] rfl
    refine va_calli (va_runS (As := [.int (v / (nI 16))]) (rest := [.ref h0]) ⟨hx, hb, hml, hown, hts⟩ (c_X0_groupOf l D kA z (v / (nI 16))  _) (va_cwS 1 hts h_X3_putByte_1 rfl rfl rfl (by decide +kernel) ⟨Nat.le_of_ble_eq_true rfl, Nat.le_of_ble_eq_true rfl⟩) (fPs hK hP hD hS hG hF [] (by decide) rfl) rfl rfl hl.1 rfl (lv_room (Nat.le_of_ble_eq_true rfl)) dX3_putByte_10 ⟨Nat.le_of_ble_eq_true rfl, Nat.le_of_ble_eq_true rfl⟩) hS (fun q _ h => hF q h) hF (fun r_1 w1 t H locs ht hvm hw hB hz1 hk1 hS => ?_)
    obtain ⟨hP, hD⟩ := fJ (wr := [(h0, .inr (2, [.ref a1, .ref a2, .ref a3, .ref a4, .int (nI n), .int ah])), (a1, .inl (kA 0, 400, .inl fb)), (a2, .inl (kA 0, 400, .inl fw)), (a3, .inl (kA 1, 400, .inl fk)), (a4, .inl (kA 0, 400, .inl fd))]) hP hD [] [0, 1, 2, 3, 4] rfl rfl (by decide) (by decide) hk1 hF ht hB
    try dsimp only at hw
    obtain ⟨v_1, rfl, e_1⟩ := hw
    replace e_1 := e_1.symm
    subst e_1
    have hP : va_P D vwCl [(h0, .inr (2, [.ref a1, .ref a2, .ref a3, .ref a4, .int (nI n), .int ah])), (a1, .inl (kA 0, 400, .inl fb)), (a2, .inl (kA 0, 400, .inl fw)), (a3, .inl (kA 1, 400, .inl fk)), (a4, .inl (kA 0, 400, .inl fd))] H := hP
    have hD : va_D A [(h0, .inr (2, [.ref a1, .ref a2, .ref a3, .ref a4, .int (nI n), .int ah])), (a1, .inl (kA 0, 400, .inl fb)), (a2, .inl (kA 0, 400, .inl fw)), (a3, .inl (kA 1, 400, .inl fk)), (a4, .inl (kA 0, 400, .inl fd))] := hD
    refine lv_iconst (v := nI 5) hx hb dX3_putByte_13 (by decide) ?_
    refine lv_iload_n hx hb dX3_putByte_14 rfl (lv_at hl 3 rfl) ?_
    have hF := va_free (wc := [(h0, .inr (2, [.ref a1, .ref a2, .ref a3, .ref a4, .int (nI n), .int ah])), (a1, .inl (kA 0, 400, .inl fb)), (a2, .inl (kA 0, 400, .inl fw)), (a3, .inl (kA 1, 400, .inl fk)), (a4, .inl (kA 0, 400, .inl fd))]) hD hS hA [0, 1, 2, 3, 4] rfl
    refine va_callv (va_runV (As := [.int v_1, .int (nI 5), .int wv]) (rest := []) ⟨hx, hb, hml, hown, hts⟩ (c_X3_putDigits l D kA z h0 a1 a2 a3 a4 n ah fb fw fk fd v_1 wv 5 (by first | assumption | omega) (by first | assumption | omega) (by first | assumption | omega) _) (cwV 3 hts h_X3_putByte_2 rfl rfl rfl (by decide +kernel) ⟨Nat.le_of_ble_eq_true rfl, Nat.le_of_ble_eq_true rfl⟩) (fPv hK hP hD hS hG hF [0, 1, 2, 3, 4] (by decide) rfl 0 2 rfl rfl rfl) rfl rfl hl.1 rfl (lv_room (Nat.le_of_ble_eq_true rfl)) dX3_putByte_15 ⟨Nat.le_of_ble_eq_true rfl, Nat.le_of_ble_eq_true rfl⟩) hS (fun q _ h => hF q h) hF (fun w1 t H locs ht hvm hw hB hz1 hk1 hS => ?_)
    obtain ⟨hP, hD⟩ := fJ (wr := []) hP hD [0, 1, 2, 3, 4] [] rfl rfl (by decide) (by decide) hk1 hF ht hB
    try dsimp only at hw
    obtain ⟨n_1, fb_1, fw_1, fk_1, fd_1, rfl, q_1⟩ := hw
    have hP : va_P D vwCl [(h0, .inr (2, [.ref a1, .ref a2, .ref a3, .ref a4, .int (nI n_1), .int ah])), (a1, .inl (kA 0, 400, .inl fb_1)), (a2, .inl (kA 0, 400, .inl fw_1)), (a3, .inl (kA 1, 400, .inl fk_1)), (a4, .inl (kA 0, 400, .inl fd_1))] H := hP
    have hD : va_D A [(h0, .inr (2, [.ref a1, .ref a2, .ref a3, .ref a4, .int (nI n_1), .int ah])), (a1, .inl (kA 0, 400, .inl fb_1)), (a2, .inl (kA 0, 400, .inl fw_1)), (a3, .inl (kA 1, 400, .inl fk_1)), (a4, .inl (kA 0, 400, .inl fd_1))] := hD
    have hm1 := q_1.2.1
    refine lv_aload_n hx hb dX3_putByte_18 rfl (lv_at hl 0 rfl) ?_
    refine lv_iload_n hx hb dX3_putByte_19 rfl (lv_at hl 2 rfl) ?_
    refine lv_bipush (v := nI 16) hx hb dX3_putByte_20 (by decide) ?_
    refine lv_irem hx hb dX3_putByte_22 (by decide) ?_
    have hF := va_free (wc := []) hD hS hA [] rfl
    refine va_calli (va_runS (As := [.int (v - v / (nI 16) * (nI 16))]) (rest := [.ref h0]) ⟨hx, hb, hml, hown, hts⟩ (c_X0_groupOf l D kA z (v - v / (nI 16) * (nI 16))  _) (va_cwS 1 hts h_X3_putByte_1 rfl rfl rfl (by decide +kernel) ⟨Nat.le_of_ble_eq_true rfl, Nat.le_of_ble_eq_true rfl⟩) (fPs hK hP hD hS hG hF [] (by decide) rfl) rfl rfl hl.1 rfl (lv_room (Nat.le_of_ble_eq_true rfl)) dX3_putByte_23 ⟨Nat.le_of_ble_eq_true rfl, Nat.le_of_ble_eq_true rfl⟩) hS (fun q _ h => hF q h) hF (fun r_2 w1 t H locs ht hvm hw hB hz1 hk1 hS => ?_)
    obtain ⟨hP, hD⟩ := fJ (wr := [(h0, .inr (2, [.ref a1, .ref a2, .ref a3, .ref a4, .int (nI n_1), .int ah])), (a1, .inl (kA 0, 400, .inl fb_1)), (a2, .inl (kA 0, 400, .inl fw_1)), (a3, .inl (kA 1, 400, .inl fk_1)), (a4, .inl (kA 0, 400, .inl fd_1))]) hP hD [] [0, 1, 2, 3, 4] rfl rfl (by decide) (by decide) hk1 hF ht hB
    try dsimp only at hw
    obtain ⟨v_2, rfl, e_2⟩ := hw
    replace e_2 := e_2.symm
    subst e_2
    have hP : va_P D vwCl [(h0, .inr (2, [.ref a1, .ref a2, .ref a3, .ref a4, .int (nI n_1), .int ah])), (a1, .inl (kA 0, 400, .inl fb_1)), (a2, .inl (kA 0, 400, .inl fw_1)), (a3, .inl (kA 1, 400, .inl fk_1)), (a4, .inl (kA 0, 400, .inl fd_1))] H := hP
    have hD : va_D A [(h0, .inr (2, [.ref a1, .ref a2, .ref a3, .ref a4, .int (nI n_1), .int ah])), (a1, .inl (kA 0, 400, .inl fb_1)), (a2, .inl (kA 0, 400, .inl fw_1)), (a3, .inl (kA 1, 400, .inl fk_1)), (a4, .inl (kA 0, 400, .inl fd_1))] := hD
    refine lv_iconst (v := nI 5) hx hb dX3_putByte_26 (by decide) ?_
    refine lv_iload_n hx hb dX3_putByte_27 rfl (lv_at hl 3 rfl) ?_
    have hF := va_free (wc := [(h0, .inr (2, [.ref a1, .ref a2, .ref a3, .ref a4, .int (nI n_1), .int ah])), (a1, .inl (kA 0, 400, .inl fb_1)), (a2, .inl (kA 0, 400, .inl fw_1)), (a3, .inl (kA 1, 400, .inl fk_1)), (a4, .inl (kA 0, 400, .inl fd_1))]) hD hS hA [0, 1, 2, 3, 4] rfl
    refine va_callv (va_runV (As := [.int v_2, .int (nI 5), .int wv]) (rest := []) ⟨hx, hb, hml, hown, hts⟩ (c_X3_putDigits l D kA z h0 a1 a2 a3 a4 n_1 ah fb_1 fw_1 fk_1 fd_1 v_2 wv 5 (by first | assumption | omega) (by first | assumption | omega) (by first | assumption | omega) _) (cwV 3 hts h_X3_putByte_2 rfl rfl rfl (by decide +kernel) ⟨Nat.le_of_ble_eq_true rfl, Nat.le_of_ble_eq_true rfl⟩) (fPv hK hP hD hS hG hF [0, 1, 2, 3, 4] (by decide) rfl 0 2 rfl rfl rfl) rfl rfl hl.1 rfl (lv_room (Nat.le_of_ble_eq_true rfl)) dX3_putByte_28 ⟨Nat.le_of_ble_eq_true rfl, Nat.le_of_ble_eq_true rfl⟩) hS (fun q _ h => hF q h) hF (fun w1 t H locs ht hvm hw hB hz1 hk1 hS => ?_)
    obtain ⟨hP, hD⟩ := fJ (wr := []) hP hD [0, 1, 2, 3, 4] [] rfl rfl (by decide) (by decide) hk1 hF ht hB
    try dsimp only at hw
    obtain ⟨n_2, fb_2, fw_2, fk_2, fd_2, rfl, q_2⟩ := hw
    have hP : va_P D vwCl [(h0, .inr (2, [.ref a1, .ref a2, .ref a3, .ref a4, .int (nI n_2), .int ah])), (a1, .inl (kA 0, 400, .inl fb_2)), (a2, .inl (kA 0, 400, .inl fw_2)), (a3, .inl (kA 1, 400, .inl fk_2)), (a4, .inl (kA 0, 400, .inl fd_2))] H := hP
    have hD : va_D A [(h0, .inr (2, [.ref a1, .ref a2, .ref a3, .ref a4, .int (nI n_2), .int ah])), (a1, .inl (kA 0, 400, .inl fb_2)), (a2, .inl (kA 0, 400, .inl fw_2)), (a3, .inl (kA 1, 400, .inl fk_2)), (a4, .inl (kA 0, 400, .inl fd_2))] := hD
    have hm2 := q_2.2.1
    exact endV hx hb hr hlocks hK hP hD hS (⟨n_2, ah, fb_2, fw_2, fk_2, fd_2, rfl, by omega, q_1.2.2.1.trans (by omega) q_2.2.2.1⟩) (Nat.le_of_ble_eq_true rfl) (Nat.le_of_ble_eq_true rfl) dX3_putByte_31

def wq_X3_putSector : List Cond := .code yX3_putSector cX3_putSector 10 none :: (([.methodLink RX3 46 yX3_putMark, .instanceMethod yX3_putMark, .selects RX3 yX3_putMark yX3_putMark, .initialized RX3, .methodLink RX3 50 yX3_putByte, .instanceMethod yX3_putByte, .selects RX3 yX3_putByte yX3_putByte, .methodLink RX3 42 yX3_put, .instanceMethod yX3_put, .selects RX3 yX3_put yX3_put] : List Cond) ++ (wq_X3_putMark ++ (wq_X3_putByte ++ (wq_X3_put_in ++ ([] : List Cond)))))
theorem gd_X3_putSector : wq_X3_putSector.all goodWord = true := by decide +kernel
theorem h_X3_putSector_0 : GoodIn wq_X3_putSector (wsV RX3 46 RX3 yX3_putMark wq_X3_putMark) := goodIn_app (goodIn_r _ [1, 2, 3, 4] (by decide +kernel) (by decide +kernel)) (goodIn_sub (fun w h => List.mem_cons_of_mem _ (List.mem_append_right _ (List.mem_append_left _ h))) gd_X3_putMark)
theorem h_X3_putSector_1 : GoodIn wq_X3_putSector (wsV RX3 50 RX3 yX3_putByte wq_X3_putByte) := goodIn_app (goodIn_r _ [5, 6, 7, 4] (by decide +kernel) (by decide +kernel)) (goodIn_sub (fun w h => List.mem_cons_of_mem _ (List.mem_append_right _ (List.mem_append_right _ (List.mem_append_left _ h)))) gd_X3_putByte)
theorem h_X3_putSector_2 : GoodIn wq_X3_putSector (wsV RX3 42 RX3 yX3_put wq_X3_put_in) := goodIn_app (goodIn_r _ [8, 9, 10, 4] (by decide +kernel) (by decide +kernel)) (goodIn_sub (fun w h => List.mem_cons_of_mem _ (List.mem_append_right _ (List.mem_append_right _ (List.mem_append_right _ (List.mem_append_left _ h))))) gd_X3_put_in)
set_option maxHeartbeats 4000000 in
set_option maxRecDepth 100000 in
theorem c_X3_putSector (l : Launch) (D : va_G) (kA : Nat → ClassId) (z : Nat) (h0 a1 a2 a3 a4 n : Nat) (ah : Int32) (fb fw fk fd : Nat → Int32) (nu da wv : Int32) (cd k rt : Nat) (hc : cd ≤ 2) (hk1 : 1 ≤ k) (hk : k ≤ 4) (hrt : rt ≤ 1) (h1 : n + 11 + (k + 3) * cB cd ≤ 400) : mV l D (tyL kA) z yX3_putSector wq_X3_putSector ({ frames := 3, cells := 0, slots := 0, locals := 72 }) [.ref h0, .int (nI cd), .int nu, .int (nI k), .int da, .int (nI rt), .int wv] [(h0, .inr (2, [.ref a1, .ref a2, .ref a3, .ref a4, .int (nI n), .int ah])), (a1, .inl (kA 0, 400, .inl fb)), (a2, .inl (kA 0, 400, .inl fw)), (a3, .inl (kA 1, 400, .inl fk)), (a4, .inl (kA 0, 400, .inl fd))] (fun w => ∃ (n2 : Nat) (ah2 : Int32) (fb2 fw2 fk2 fd2 : Nat → Int32), w = [(h0, .inr (2, [.ref a1, .ref a2, .ref a3, .ref a4, .int (nI n2), .int ah2])), (a1, .inl (kA 0, 400, .inl fb2)), (a2, .inl (kA 0, 400, .inl fw2)), (a3, .inl (kA 1, 400, .inl fk2)), (a4, .inl (kA 0, 400, .inl fd2))] ∧ (n2 = n + 11 + (k + 3) * cB cd) ∧ (xE n n2 wv fw fw2 fk fk2 fd fd2) ∧ (fb2 (n2 - 1) = nI 1)) := by
  refine ofV (cc := cX3_putSector) (maxL := 10) RX3 rfl (by decide +kernel) rfl (Nat.le_of_ble_eq_true rfl) ?_
  intro p e s m args below meth c A ls hnm hE
  obtain ⟨hx, hb, hr, hml, hts, hown, hlocks, hA, hS, hP, hK, hD, hG, hl⟩ := hE
  have hl : lv_has ls 10 [(0, .ref h0), (1, .int (nI cd)), (2, .int nu), (3, .int (nI k)), (4, .int da), (5, .int (nI rt)), (6, .int wv)] := hl
  have hH : s.heap = s.heap := rfl
  have hmul : (k + 3) * cB cd = k * cB cd + 3 * cB cd := Nat.add_mul _ _ _
  have hge := cB_ge cd
  have hle := cB_le cd
  have jn_14 : ∀ (su : Int32) (_ : True), ∀ (H : Heap) (locs : List Loc) (ls : Array Slot), va_P D vwCl [(h0, .inr (2, [.ref a1, .ref a2, .ref a3, .ref a4, .int (nI n), .int ah])), (a1, .inl (kA 0, 400, .inl fb)), (a2, .inl (kA 0, 400, .inl fw)), (a3, .inl (kA 1, 400, .inl fk)), (a4, .inl (kA 0, 400, .inl fd))] H → va_D A [(h0, .inr (2, [.ref a1, .ref a2, .ref a3, .ref a4, .int (nI n), .int ah])), (a1, .inl (kA 0, 400, .inl fb)), (a2, .inl (kA 0, 400, .inl fw)), (a3, .inl (kA 1, 400, .inl fk)), (a4, .inl (kA 0, 400, .inl fd))] → va_S A s.heap H locs → lv_has ls 10 [(0, .ref h0), (1, .int (nI cd)), (2, .int nu), (3, .int (nI k)), (4, .int da), (5, .int (nI rt)), (6, .int wv)] → W p l e ({ frames := 3, cells := 0, slots := 0, locals := 72 }) s m args below meth c H locs 0 0 (MQ below (va_Qv (fun w => ∃ (n2 : Nat) (ah2 : Int32) (fb2 fw2 fk2 fd2 : Nat → Int32), w = [(h0, .inr (2, [.ref a1, .ref a2, .ref a3, .ref a4, .int (nI n2), .int ah2])), (a1, .inl (kA 0, 400, .inl fb2)), (a2, .inl (kA 0, 400, .inl fw2)), (a3, .inl (kA 1, 400, .inl fk2)), (a4, .inl (kA 0, 400, .inl fd2))] ∧ (n2 = n + 11 + (k + 3) * cB cd) ∧ (xE n n2 wv fw fw2 fk fk2 fd fd2) ∧ (fb2 (n2 - 1) = nI 1)) (fB D (tyL kA) A) A) args s 0 0 A) (F0 m 14 ls [.int su]) := by
    clear hP hD hS hl
    intro su _  H locs ls hP hD hS hl
    refine lv_istore (lv' := [(7, .int su), (0, .ref h0), (1, .int (nI cd)), (2, .int nu), (3, .int (nI k)), (4, .int da), (5, .int (nI rt)), (6, .int wv)]) hx hb dX3_putSector_14 hl (by decide) rfl (fun ls hl => ?_)
    refine lv_aload_n hx hb dX3_putSector_16 rfl (lv_at hl 1 rfl) ?_
    refine lv_iload hx hb dX3_putSector_17 (lv_at hl 7 rfl) ?_
    have hF := va_free (wc := [(h0, .inr (2, [.ref a1, .ref a2, .ref a3, .ref a4, .int (nI n), .int ah])), (a1, .inl (kA 0, 400, .inl fb)), (a2, .inl (kA 0, 400, .inl fw)), (a3, .inl (kA 1, 400, .inl fk)), (a4, .inl (kA 0, 400, .inl fd))]) hD hS hA [0, 1, 2, 3, 4] rfl
    refine va_callv (va_runV (As := [.int wv]) (rest := []) ⟨hx, hb, hml, hown, hts⟩ (c_X3_putMark l D kA z h0 a1 a2 a3 a4 n ah fb fw fk fd wv (by first | assumption | omega) _) (cwV 1 hts h_X3_putSector_0 rfl rfl rfl (by decide +kernel) ⟨Nat.le_of_ble_eq_true rfl, Nat.le_of_ble_eq_true rfl⟩) (fPv hK hP hD hS hG hF [0, 1, 2, 3, 4] (by decide) rfl 0 2 rfl rfl rfl) rfl rfl hl.1 rfl (lv_room (Nat.le_of_ble_eq_true rfl)) dX3_putSector_19 ⟨Nat.le_of_ble_eq_true rfl, Nat.le_of_ble_eq_true rfl⟩) hS (fun q _ h => hF q h) hF (fun w1 t H locs ht hvm hw hB hz1 hk1 hS => ?_)
    obtain ⟨hP, hD⟩ := fJ (wr := []) hP hD [0, 1, 2, 3, 4] [] rfl rfl (by decide) (by decide) hk1 hF ht hB
    try dsimp only at hw
    obtain ⟨n_1, fb_1, fw_1, fk_1, fd_1, rfl, hn_1, e_1, m_1, m_2, m_3⟩ := hw
    have hP : va_P D vwCl [(h0, .inr (2, [.ref a1, .ref a2, .ref a3, .ref a4, .int (nI n_1), .int (nI 0)])), (a1, .inl (kA 0, 400, .inl fb_1)), (a2, .inl (kA 0, 400, .inl fw_1)), (a3, .inl (kA 1, 400, .inl fk_1)), (a4, .inl (kA 0, 400, .inl fd_1))] H := hP
    have hD : va_D A [(h0, .inr (2, [.ref a1, .ref a2, .ref a3, .ref a4, .int (nI n_1), .int (nI 0)])), (a1, .inl (kA 0, 400, .inl fb_1)), (a2, .inl (kA 0, 400, .inl fw_1)), (a3, .inl (kA 1, 400, .inl fk_1)), (a4, .inl (kA 0, 400, .inl fd_1))] := hD
    refine lv_aload_n hx hb dX3_putSector_22 rfl (lv_at hl 1 rfl) ?_
    refine lv_iload_n hx hb dX3_putSector_23 rfl (lv_at hl 2 rfl) ?_
    refine lv_iload_n hx hb dX3_putSector_24 rfl (lv_at hl 3 rfl) ?_
    refine lv_iload hx hb dX3_putSector_25 (lv_at hl 7 rfl) ?_
    have hF := va_free (wc := [(h0, .inr (2, [.ref a1, .ref a2, .ref a3, .ref a4, .int (nI n_1), .int (nI 0)])), (a1, .inl (kA 0, 400, .inl fb_1)), (a2, .inl (kA 0, 400, .inl fw_1)), (a3, .inl (kA 1, 400, .inl fk_1)), (a4, .inl (kA 0, 400, .inl fd_1))]) hD hS hA [0, 1, 2, 3, 4] rfl
    refine va_callv (va_runV (As := [.int (nI cd), .int nu, .int wv]) (rest := []) ⟨hx, hb, hml, hown, hts⟩ (c_X3_putByte l D kA z h0 a1 a2 a3 a4 n_1 (nI 0) fb_1 fw_1 fk_1 fd_1 nu wv cd (by first | assumption | omega) (by first | assumption | omega) _) (cwV 3 hts h_X3_putSector_1 rfl rfl rfl (by decide +kernel) ⟨Nat.le_of_ble_eq_true rfl, Nat.le_of_ble_eq_true rfl⟩) (fPv hK hP hD hS hG hF [0, 1, 2, 3, 4] (by decide) rfl 0 2 rfl rfl rfl) rfl rfl hl.1 rfl (lv_room (Nat.le_of_ble_eq_true rfl)) dX3_putSector_27 ⟨Nat.le_of_ble_eq_true rfl, Nat.le_of_ble_eq_true rfl⟩) hS (fun q _ h => hF q h) hF (fun w1 t H locs ht hvm hw hB hz1 hk1 hS => ?_)
    obtain ⟨hP, hD⟩ := fJ (wr := []) hP hD [0, 1, 2, 3, 4] [] rfl rfl (by decide) (by decide) hk1 hF ht hB
    try dsimp only at hw
    obtain ⟨n_2, ah_1, fb_2, fw_2, fk_2, fd_2, rfl, hn_2, e_2⟩ := hw
    have hP : va_P D vwCl [(h0, .inr (2, [.ref a1, .ref a2, .ref a3, .ref a4, .int (nI n_2), .int ah_1])), (a1, .inl (kA 0, 400, .inl fb_2)), (a2, .inl (kA 0, 400, .inl fw_2)), (a3, .inl (kA 1, 400, .inl fk_2)), (a4, .inl (kA 0, 400, .inl fd_2))] H := hP
    have hD : va_D A [(h0, .inr (2, [.ref a1, .ref a2, .ref a3, .ref a4, .int (nI n_2), .int ah_1])), (a1, .inl (kA 0, 400, .inl fb_2)), (a2, .inl (kA 0, 400, .inl fw_2)), (a3, .inl (kA 1, 400, .inl fk_2)), (a4, .inl (kA 0, 400, .inl fd_2))] := hD
    refine lv_aload_n hx hb dX3_putSector_30 rfl (lv_at hl 1 rfl) ?_
    refine lv_iload_n hx hb dX3_putSector_31 rfl (lv_at hl 2 rfl) ?_
    refine lv_iload_n hx hb dX3_putSector_32 rfl (lv_at hl 4 rfl) ?_
    refine lv_iload hx hb dX3_putSector_33 (lv_at hl 7 rfl) ?_
    have hF := va_free (wc := [(h0, .inr (2, [.ref a1, .ref a2, .ref a3, .ref a4, .int (nI n_2), .int ah_1])), (a1, .inl (kA 0, 400, .inl fb_2)), (a2, .inl (kA 0, 400, .inl fw_2)), (a3, .inl (kA 1, 400, .inl fk_2)), (a4, .inl (kA 0, 400, .inl fd_2))]) hD hS hA [0, 1, 2, 3, 4] rfl
    refine va_callv (va_runV (As := [.int (nI cd), .int (nI k), .int wv]) (rest := []) ⟨hx, hb, hml, hown, hts⟩ (c_X3_putByte l D kA z h0 a1 a2 a3 a4 n_2 ah_1 fb_2 fw_2 fk_2 fd_2 (nI k) wv cd (by first | assumption | omega) (by first | assumption | omega) _) (cwV 3 hts h_X3_putSector_1 rfl rfl rfl (by decide +kernel) ⟨Nat.le_of_ble_eq_true rfl, Nat.le_of_ble_eq_true rfl⟩) (fPv hK hP hD hS hG hF [0, 1, 2, 3, 4] (by decide) rfl 0 2 rfl rfl rfl) rfl rfl hl.1 rfl (lv_room (Nat.le_of_ble_eq_true rfl)) dX3_putSector_35 ⟨Nat.le_of_ble_eq_true rfl, Nat.le_of_ble_eq_true rfl⟩) hS (fun q _ h => hF q h) hF (fun w1 t H locs ht hvm hw hB hz1 hk1 hS => ?_)
    obtain ⟨hP, hD⟩ := fJ (wr := []) hP hD [0, 1, 2, 3, 4] [] rfl rfl (by decide) (by decide) hk1 hF ht hB
    try dsimp only at hw
    obtain ⟨n_3, ah_2, fb_3, fw_3, fk_3, fd_3, rfl, hn_3, e_3⟩ := hw
    have hP : va_P D vwCl [(h0, .inr (2, [.ref a1, .ref a2, .ref a3, .ref a4, .int (nI n_3), .int ah_2])), (a1, .inl (kA 0, 400, .inl fb_3)), (a2, .inl (kA 0, 400, .inl fw_3)), (a3, .inl (kA 1, 400, .inl fk_3)), (a4, .inl (kA 0, 400, .inl fd_3))] H := hP
    have hD : va_D A [(h0, .inr (2, [.ref a1, .ref a2, .ref a3, .ref a4, .int (nI n_3), .int ah_2])), (a1, .inl (kA 0, 400, .inl fb_3)), (a2, .inl (kA 0, 400, .inl fw_3)), (a3, .inl (kA 1, 400, .inl fk_3)), (a4, .inl (kA 0, 400, .inl fd_3))] := hD
    refine lv_iconst (v := nI 0) hx hb dX3_putSector_38 (by decide) ?_
    refine lv_istore (lv' := [(8, .int (nI 0)), (7, .int su), (0, .ref h0), (1, .int (nI cd)), (2, .int nu), (3, .int (nI k)), (4, .int da), (5, .int (nI rt)), (6, .int wv)]) hx hb dX3_putSector_39 hl (by decide) rfl (fun ls hl => ?_)
    have lp_41 : ∀ (n_41 : Nat) (i : Nat) (su : Int32) (m9 : Nat) (ag : Int32) (gb : Nat → Int32) (gw : Nat → Int32) (gk : Nat → Int32) (gd : Nat → Int32), k - i < n_41 → (i ≤ k) → (m9 = n + 10 + 2 * cB cd + i * cB cd) → (xE n m9 wv fw gw fk gk fd gd) → ∀ (H : Heap) (locs : List Loc) (ls : Array Slot), va_P D vwCl [(h0, .inr (2, [.ref a1, .ref a2, .ref a3, .ref a4, .int (nI m9), .int ag])), (a1, .inl (kA 0, 400, .inl gb)), (a2, .inl (kA 0, 400, .inl gw)), (a3, .inl (kA 1, 400, .inl gk)), (a4, .inl (kA 0, 400, .inl gd))] H → va_D A [(h0, .inr (2, [.ref a1, .ref a2, .ref a3, .ref a4, .int (nI m9), .int ag])), (a1, .inl (kA 0, 400, .inl gb)), (a2, .inl (kA 0, 400, .inl gw)), (a3, .inl (kA 1, 400, .inl gk)), (a4, .inl (kA 0, 400, .inl gd))] → va_S A s.heap H locs → lv_has ls 10 [(8, .int (nI i)), (7, .int su), (0, .ref h0), (1, .int (nI cd)), (2, .int nu), (3, .int (nI k)), (4, .int da), (5, .int (nI rt)), (6, .int wv)] → W p l e ({ frames := 3, cells := 0, slots := 0, locals := 72 }) s m args below meth c H locs 0 0 (MQ below (va_Qv (fun w => ∃ (n2 : Nat) (ah2 : Int32) (fb2 fw2 fk2 fd2 : Nat → Int32), w = [(h0, .inr (2, [.ref a1, .ref a2, .ref a3, .ref a4, .int (nI n2), .int ah2])), (a1, .inl (kA 0, 400, .inl fb2)), (a2, .inl (kA 0, 400, .inl fw2)), (a3, .inl (kA 1, 400, .inl fk2)), (a4, .inl (kA 0, 400, .inl fd2))] ∧ (n2 = n + 11 + (k + 3) * cB cd) ∧ (xE n n2 wv fw fw2 fk fk2 fd fd2) ∧ (fb2 (n2 - 1) = nI 1)) (fB D (tyL kA) A) A) args s 0 0 A) (F0 m 41 ls []) := by
      clear hP hD hS hl
      intro n_41
      induction n_41 with
      | zero =>
        intro i su m9 ag gb gw gk gd hm_41 hi1 hm8 hx8
        exact absurd hm_41 (by omega)
      | succ n_41 ih_41 =>
        intro i su m9 ag gb gw gk gd hm_41 hi1 hm8 hx8 H locs ls hP hD hS hl
        have hmi : i * cB cd ≤ k * cB cd := Nat.mul_le_mul_right _ hi1
        refine lv_iload hx hb dX3_putSector_41 (lv_at hl 0 rfl) ?_
        refine lv_iload_n hx hb dX3_putSector_43 rfl (lv_at hl 5 rfl) ?_
        refine lv_icmp_ge (tgt := 83) hx hb dX3_putSector_44 (by decide) (fun c44 => ?_) (fun c44 => ?_)
        ·
          rw [qle (a := k) (b := i) (by omega) (by omega)] at c44
          have hik : i = k := by omega
          subst hik
          refine lv_aload_n hx hb dX3_putSector_83 rfl (lv_at hl 2 rfl) ?_
          refine lv_iload_n hx hb dX3_putSector_84 rfl (lv_at hl 3 rfl) ?_
          refine lv_iload hx hb dX3_putSector_85 (lv_at hl 1 rfl) ?_
          refine lv_sipush (v := nI 255) hx hb dX3_putSector_87 (by decide) ?_
          refine lv_iand hx hb dX3_putSector_90 ?_
          refine lv_iload hx hb dX3_putSector_91 (lv_at hl 8 rfl) ?_
          have hF := va_free (wc := [(h0, .inr (2, [.ref a1, .ref a2, .ref a3, .ref a4, .int (nI m9), .int ag])), (a1, .inl (kA 0, 400, .inl gb)), (a2, .inl (kA 0, 400, .inl gw)), (a3, .inl (kA 1, 400, .inl gk)), (a4, .inl (kA 0, 400, .inl gd))]) hD hS hA [0, 1, 2, 3, 4] rfl
          refine va_callv (va_runV (As := [.int (nI cd), .int (su &&& (nI 255)), .int wv]) (rest := []) ⟨hx, hb, hml, hown, hts⟩ (c_X3_putByte l D kA z h0 a1 a2 a3 a4 m9 ag gb gw gk gd (su &&& (nI 255)) wv cd (by first | assumption | omega) (by first | assumption | omega) _) (cwV 3 hts h_X3_putSector_1 rfl rfl rfl (by decide +kernel) ⟨Nat.le_of_ble_eq_true rfl, Nat.le_of_ble_eq_true rfl⟩) (fPv hK hP hD hS hG hF [0, 1, 2, 3, 4] (by decide) rfl 0 2 rfl rfl rfl) rfl rfl hl.1 rfl (lv_room (Nat.le_of_ble_eq_true rfl)) dX3_putSector_93 ⟨Nat.le_of_ble_eq_true rfl, Nat.le_of_ble_eq_true rfl⟩) hS (fun q _ h => hF q h) hF (fun w1 t H locs ht hvm hw hB hz1 hk1 hS => ?_)
          obtain ⟨hP, hD⟩ := fJ (wr := []) hP hD [0, 1, 2, 3, 4] [] rfl rfl (by decide) (by decide) hk1 hF ht hB
          try dsimp only at hw
          obtain ⟨n_4, ah_3, fb_4, fw_4, fk_4, fd_4, rfl, hn_4, e_4⟩ := hw
          have hP : va_P D vwCl [(h0, .inr (2, [.ref a1, .ref a2, .ref a3, .ref a4, .int (nI n_4), .int ah_3])), (a1, .inl (kA 0, 400, .inl fb_4)), (a2, .inl (kA 0, 400, .inl fw_4)), (a3, .inl (kA 1, 400, .inl fk_4)), (a4, .inl (kA 0, 400, .inl fd_4))] H := hP
          have hD : va_D A [(h0, .inr (2, [.ref a1, .ref a2, .ref a3, .ref a4, .int (nI n_4), .int ah_3])), (a1, .inl (kA 0, 400, .inl fb_4)), (a2, .inl (kA 0, 400, .inl fw_4)), (a3, .inl (kA 1, 400, .inl fk_4)), (a4, .inl (kA 0, 400, .inl fd_4))] := hD
          refine lv_aload_n hx hb dX3_putSector_96 rfl (lv_at hl 2 rfl) ?_
          refine lv_iconst (v := nI 1) hx hb dX3_putSector_97 (by decide) ?_
          refine lv_iload hx hb dX3_putSector_98 (lv_at hl 8 rfl) ?_
          have hF := va_free (wc := [(h0, .inr (2, [.ref a1, .ref a2, .ref a3, .ref a4, .int (nI n_4), .int ah_3])), (a1, .inl (kA 0, 400, .inl fb_4)), (a2, .inl (kA 0, 400, .inl fw_4)), (a3, .inl (kA 1, 400, .inl fk_4)), (a4, .inl (kA 0, 400, .inl fd_4))]) hD hS hA [0, 1, 2, 3, 4] rfl
          refine va_callv (va_runV (As := [.int (nI 1), .int wv]) (rest := []) ⟨hx, hb, hml, hown, hts⟩ (c_X3_put_in l D kA z h0 a1 a2 a3 a4 n_4 ah_3 fb_4 fw_4 fk_4 fd_4 (nI 1) wv (by first | assumption | omega) _) (cwV 2 hts h_X3_putSector_2 rfl rfl rfl (by decide +kernel) ⟨Nat.le_of_ble_eq_true rfl, Nat.le_of_ble_eq_true rfl⟩) (fPv hK hP hD hS hG hF [0, 1, 2, 3, 4] (by decide) rfl 0 2 rfl rfl rfl) rfl rfl hl.1 rfl (lv_room (Nat.le_of_ble_eq_true rfl)) dX3_putSector_100 ⟨Nat.le_of_ble_eq_true rfl, Nat.le_of_ble_eq_true rfl⟩) hS (fun q _ h => hF q h) hF (fun w1 t H locs ht hvm hw hB hz1 hk1 hS => ?_)
          obtain ⟨hP, hD⟩ := fJ (wr := []) hP hD [0, 1, 2, 3, 4] [] rfl rfl (by decide) (by decide) hk1 hF ht hB
          try dsimp only at hw
          subst hw
          have hP : va_P D vwCl [(h0, .inr (2, [.ref a1, .ref a2, .ref a3, .ref a4, .int (nI (n_4 + 1)), .int ah_3])), (a1, .inl (kA 0, 400, .inl (upd fb_4 n_4 (nI 1)))), (a2, .inl (kA 0, 400, .inl (upd fw_4 n_4 wv))), (a3, .inl (kA 1, 400, .inl (upd fk_4 n_4 (nI 0)))), (a4, .inl (kA 0, 400, .inl (upd fd_4 n_4 (nI 0))))] H := hP
          have hD : va_D A [(h0, .inr (2, [.ref a1, .ref a2, .ref a3, .ref a4, .int (nI (n_4 + 1)), .int ah_3])), (a1, .inl (kA 0, 400, .inl (upd fb_4 n_4 (nI 1)))), (a2, .inl (kA 0, 400, .inl (upd fw_4 n_4 wv))), (a3, .inl (kA 1, 400, .inl (upd fk_4 n_4 (nI 0)))), (a4, .inl (kA 0, 400, .inl (upd fd_4 n_4 (nI 0))))] := hD
          exact endV hx hb hr hlocks hK hP hD hS (⟨(n_4 + 1), ah_3, (upd fb_4 n_4 (nI 1)), (upd fw_4 n_4 wv), (upd fk_4 n_4 (nI 0)), (upd fd_4 n_4 (nI 0)), rfl, by omega, (hx8.trans (by omega) e_4).trans (by omega) (xE.put _ _ _ _ _), by rw [Nat.add_sub_cancel]; exact upd_at _ _ _⟩) (Nat.le_of_ble_eq_true rfl) (Nat.le_of_ble_eq_true rfl) dX3_putSector_103
        ·
          rw [qle (a := k) (b := i) (by omega) (by omega)] at c44
          have hmi2 : (i + 1) * cB cd ≤ k * cB cd := Nat.mul_le_mul_right _ (by omega)
          have hs8 : (i + 1) * cB cd = i * cB cd + cB cd := Nat.succ_mul _ _
          refine lv_iload hx hb dX3_putSector_47 (lv_at hl 6 rfl) ?_
          refine lv_bipush (v := nI 8) hx hb dX3_putSector_49 (by decide) ?_
          refine lv_iload hx hb dX3_putSector_51 (lv_at hl 0 rfl) ?_
          refine lv_imul hx hb dX3_putSector_53 ?_
          rw [pk_mul 8 i]
          refine lv_iushr (v := (da.toUInt32 >>> ((nI (8 * i)).toUInt32 &&& Int32.toUInt32 31)).toInt32) hx hb dX3_putSector_54 rfl ?_
          refine lv_sipush (v := nI 255) hx hb dX3_putSector_55 (by decide) ?_
          refine lv_iand hx hb dX3_putSector_58 ?_
          refine lv_istore (lv' := [(9, .int ((da.toUInt32 >>> ((nI (8 * i)).toUInt32 &&& Int32.toUInt32 31)).toInt32 &&& (nI 255))), (8, .int (nI i)), (7, .int su), (0, .ref h0), (1, .int (nI cd)), (2, .int nu), (3, .int (nI k)), (4, .int da), (5, .int (nI rt)), (6, .int wv)]) hx hb dX3_putSector_59 hl (by decide) rfl (fun ls hl => ?_)
          refine lv_aload_n hx hb dX3_putSector_61 rfl (lv_at hl 3 rfl) ?_
          refine lv_iload_n hx hb dX3_putSector_62 rfl (lv_at hl 4 rfl) ?_
          refine lv_iload hx hb dX3_putSector_63 (lv_at hl 0 rfl) ?_
          refine lv_iload hx hb dX3_putSector_65 (lv_at hl 9 rfl) ?_
          have hF := va_free (wc := [(h0, .inr (2, [.ref a1, .ref a2, .ref a3, .ref a4, .int (nI m9), .int ag])), (a1, .inl (kA 0, 400, .inl gb)), (a2, .inl (kA 0, 400, .inl gw)), (a3, .inl (kA 1, 400, .inl gk)), (a4, .inl (kA 0, 400, .inl gd))]) hD hS hA [0, 1, 2, 3, 4] rfl
          refine va_callv (va_runV (As := [.int (nI cd), .int ((da.toUInt32 >>> ((nI (8 * i)).toUInt32 &&& Int32.toUInt32 31)).toInt32 &&& (nI 255)), .int wv]) (rest := []) ⟨hx, hb, hml, hown, hts⟩ (c_X3_putByte l D kA z h0 a1 a2 a3 a4 m9 ag gb gw gk gd ((da.toUInt32 >>> ((nI (8 * i)).toUInt32 &&& Int32.toUInt32 31)).toInt32 &&& (nI 255)) wv cd (by first | assumption | omega) (by first | assumption | omega) _) (cwV 3 hts h_X3_putSector_1 rfl rfl rfl (by decide +kernel) ⟨Nat.le_of_ble_eq_true rfl, Nat.le_of_ble_eq_true rfl⟩) (fPv hK hP hD hS hG hF [0, 1, 2, 3, 4] (by decide) rfl 0 2 rfl rfl rfl) rfl rfl hl.1 rfl (lv_room (Nat.le_of_ble_eq_true rfl)) dX3_putSector_67 ⟨Nat.le_of_ble_eq_true rfl, Nat.le_of_ble_eq_true rfl⟩) hS (fun q _ h => hF q h) hF (fun w1 t H locs ht hvm hw hB hz1 hk1 hS => ?_)
          obtain ⟨hP, hD⟩ := fJ (wr := []) hP hD [0, 1, 2, 3, 4] [] rfl rfl (by decide) (by decide) hk1 hF ht hB
          try dsimp only at hw
          obtain ⟨n_5, ah_4, fb_5, fw_5, fk_5, fd_5, rfl, hn_5, e_5⟩ := hw
          have hP : va_P D vwCl [(h0, .inr (2, [.ref a1, .ref a2, .ref a3, .ref a4, .int (nI n_5), .int ah_4])), (a1, .inl (kA 0, 400, .inl fb_5)), (a2, .inl (kA 0, 400, .inl fw_5)), (a3, .inl (kA 1, 400, .inl fk_5)), (a4, .inl (kA 0, 400, .inl fd_5))] H := hP
          have hD : va_D A [(h0, .inr (2, [.ref a1, .ref a2, .ref a3, .ref a4, .int (nI n_5), .int ah_4])), (a1, .inl (kA 0, 400, .inl fb_5)), (a2, .inl (kA 0, 400, .inl fw_5)), (a3, .inl (kA 1, 400, .inl fk_5)), (a4, .inl (kA 0, 400, .inl fd_5))] := hD
          refine lv_iload hx hb dX3_putSector_70 (lv_at hl 2 rfl) ?_
          refine lv_iload hx hb dX3_putSector_72 (lv_at hl 0 rfl) ?_
          refine lv_iadd hx hb dX3_putSector_74 ?_
          refine lv_istore (lv' := [(7, .int (su + ((da.toUInt32 >>> ((nI (8 * i)).toUInt32 &&& Int32.toUInt32 31)).toInt32 &&& (nI 255)))), (9, .int ((da.toUInt32 >>> ((nI (8 * i)).toUInt32 &&& Int32.toUInt32 31)).toInt32 &&& (nI 255))), (8, .int (nI i)), (0, .ref h0), (1, .int (nI cd)), (2, .int nu), (3, .int (nI k)), (4, .int da), (5, .int (nI rt)), (6, .int wv)]) hx hb dX3_putSector_75 hl (by decide) rfl (fun ls hl => ?_)
          refine lv_iinc (v := nI (i + 1)) (lv' := [(8, .int (nI (i + 1))), (7, .int (su + ((da.toUInt32 >>> ((nI (8 * i)).toUInt32 &&& Int32.toUInt32 31)).toInt32 &&& (nI 255)))), (9, .int ((da.toUInt32 >>> ((nI (8 * i)).toUInt32 &&& Int32.toUInt32 31)).toInt32 &&& (nI 255))), (0, .ref h0), (1, .int (nI cd)), (2, .int nu), (3, .int (nI k)), (4, .int da), (5, .int (nI rt)), (6, .int wv)]) hx hb dX3_putSector_77 hl (k := 2) rfl (nI_add i 1) (by decide) rfl (fun ls hl => ?_)
          refine lv_goto (tgt := 41) hx hb dX3_putSector_80 (by decide) ?_
          have hs9 : (i + 1) * cB cd = i * cB cd + cB cd := Nat.succ_mul _ _
          exact ih_41 (i + 1) (su + ((da.toUInt32 >>> ((nI (8 * i)).toUInt32 &&& Int32.toUInt32 31)).toInt32 &&& (nI 255))) n_5 ah_4 fb_5 fw_5 fk_5 fd_5 (by omega) (by first | assumption | omega | rfl) (by omega) (hx8.trans (by omega) e_5) _ _ _ (hP.sub [0, 1, 2, 3, 4] rfl) (hD.sub [0, 1, 2, 3, 4] (by decide) rfl) hS (lv_sub hl [0, 1, 3, 4, 5, 6, 7, 8, 9] rfl)
    exact lp_41 (k + 1) 0 su n_3 ah_2 fb_3 fw_3 fk_3 fd_3 (by omega) (by first | assumption | omega | rfl) (by omega) ((e_1.trans (by omega) e_2).trans (by omega) e_3) _ _ _ (hP.sub [0, 1, 2, 3, 4] rfl) (hD.sub [0, 1, 2, 3, 4] (by decide) rfl) hS (lv_sub hl [0, 1, 2, 3, 4, 5, 6, 7, 8] rfl)
  refine lv_iload_n hx hb dX3_putSector_0 rfl (lv_at hl 2 rfl) ?_
  refine lv_iload_n hx hb dX3_putSector_1 rfl (lv_at hl 3 rfl) ?_
  refine lv_iadd hx hb dX3_putSector_2 ?_
  refine lv_iload hx hb dX3_putSector_3 (lv_at hl 5 rfl) ?_
  refine lv_if_eq (tgt := 12) hx hb dX3_putSector_5 (by decide) (fun c5 => ?_) (fun c5 => ?_)
  ·
    rw [qz (a := rt) (by omega)] at c5
    refine lv_iconst (v := nI 1) hx hb dX3_putSector_12 (by decide) ?_
    refine lv_iadd hx hb dX3_putSector_13 ?_
    exact jn_14 ((nu + (nI k)) + (nI 1)) trivial  _ _ _ (hP.sub [0, 1, 2, 3, 4] rfl) (hD.sub [0, 1, 2, 3, 4] (by decide) rfl) hS (lv_sub hl [0, 1, 2, 3, 4, 5, 6] rfl)
  ·
    rw [qz (a := rt) (by omega)] at c5
    refine lv_iconst (v := nI 0) hx hb dX3_putSector_8 (by decide) ?_
    refine lv_goto (tgt := 13) hx hb dX3_putSector_9 (by decide) ?_
    refine lv_iadd hx hb dX3_putSector_13 ?_
    exact jn_14 ((nu + (nI k)) + (nI 0)) trivial  _ _ _ (hP.sub [0, 1, 2, 3, 4] rfl) (hD.sub [0, 1, 2, 3, 4] (by decide) rfl) hS (lv_sub hl [0, 1, 2, 3, 4, 5, 6] rfl)
