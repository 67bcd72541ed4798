def wq_L_write_e : List Cond := .codeWith yL_write cL_write 5 (some .int) [(0, 10, 13, 24), (0, 10, 17, 13), (0, 10, 21, 15)] :: (([.methodLink RL 20 yX6_write, .instanceMethod yX6_write, .selects RX6 yX6_write yX6_write, .initialized RX6, .classLink RL 24 "java/lang/IndexOutOfBoundsException"] : List Cond) ++ (wq_X6_write_e ++ ([] : List Cond)))
theorem gd_L_write_e : wq_L_write_e.all goodWord = true := by decide +kernel
theorem h_L_write_e_0 : GoodIn wq_L_write_e (wsV RL 20 RX6 yX6_write wq_X6_write_e) := goodIn_app (goodIn_r _ [1, 2, 3, 4] (by decide +kernel) (by decide +kernel)) (goodIn_sub (fun w h => List.mem_cons_of_mem _ (List.mem_append_right _ (List.mem_append_left _ h))) gd_X6_write_e)
set_option maxHeartbeats 4000000 in
set_option maxRecDepth 100000 in
theorem c_L_write_e (l : Launch) (D : va_G) (kA : Nat → ClassId) (z : Nat) (hfl : l.stackTraces = false) (h0 a o : Nat) (x0 x1 : Int32) (g : Nat → Int64)  : mI l D (tyL kA) z yL_write wq_L_write_e ({ frames := 8, cells := 1, slots := 6, locals := 143 }) [.ref h0, .int x0, .int x1, .ref o] [(h0, .inr (7, [.ref a, .int (nI 0), .int (nI 8), .int (nI 0), .int (nI 0), .int (nI 0), .int (nI 0)])), (a, .inl (kA 2, 4, .inr (.inr (.inr (.inr (fun _ => none)))))), (o, .inl (kA 4, 1, .inr (.inl g)))] (fun r w => w = [(h0, .inr (7, [.ref a, .int (nI 0), .int (nI 8), .int (nI 0), .int (nI 0), .int (nI 0), .int (nI 0)])), (a, .inl (kA 2, 4, .inr (.inr (.inr (.inr (fun _ => none)))))), (o, .inl (kA 4, 1, .inr (.inl g)))] ∧ r = nI 1) := by
  refine ofWI (cc := cL_write) (maxL := 5) RL rfl (by decide +kernel) rfl (Nat.le_of_ble_eq_true rfl) ?_
  intro p e s m args below meth c A ls htab hE
  obtain ⟨hx, hb, hr, hml, hts, hown, hlocks, hA, hS, hP, hK, hD, hG, hl⟩ := hE
  have hl : lv_has ls 5 [(0, .ref h0), (1, .int x0), (2, .int x1), (3, .ref o)] := hl
  have hH : s.heap = s.heap := rfl
  refine lv_aload_n hx hb dL_write_0 rfl (lv_at hl 3 rfl) ?_
  refine lv_iconst (v := nI 0) hx hb dL_write_1 (by decide) ?_
  refine lv_aload_n hx hb dL_write_2 rfl (lv_at hl 0 rfl) ?_
  refine lv_iload_n hx hb dL_write_3 rfl (lv_at hl 1 rfl) ?_
  refine lv_iload_n hx hb dL_write_4 rfl (lv_at hl 2 rfl) ?_
  have hF := va_free (wc := [(h0, .inr (7, [.ref a, .int (nI 0), .int (nI 8), .int (nI 0), .int (nI 0), .int (nI 0), .int (nI 0)])), (a, .inl (kA 2, 4, .inr (.inr (.inr (.inr (fun _ => none))))))]) hD hS hA [0, 1] rfl
  refine vx_calli (vx_runV (As := [.int x0, .int x1]) (rest := [.int (nI 0), .ref o]) ⟨hx, hb, hml, hown, hts⟩ (c_X6_write_e l D kA z hfl h0 a x0 x1  _) (cwV 2 hts h_L_write_e_0 rfl rfl rfl (by decide +kernel) ⟨Nat.le_of_ble_eq_true rfl, Nat.le_of_ble_eq_true rfl⟩) (fPv hK hP hD hS hG hF [0, 1] (by decide) rfl 0 7 rfl rfl rfl) rfl rfl hl.1 rfl (lv_room (Nat.le_of_ble_eq_true rfl)) dL_write_5 ⟨Nat.le_of_ble_eq_true rfl, Nat.le_of_ble_eq_true rfl⟩) hS (fun q _ h => hF q h) hF (fun q _ h => hF q h) (fun E ce q9 u9 t H locs ht hvm hw hB hz1 hk1 hS hc9 hv9 hcl9 => ?_) (fun r_1 w1 t H locs ht hvm hw hB hz1 hk1 hS => ?_)
  ·
    obtain ⟨E9, w1⟩ := u9
    obtain ⟨e9, hB⟩ := hB
    have e9 : E9 = E := e9
    subst e9
    obtain ⟨hP, hD⟩ := fJ (wr := [(o, .inl (kA 4, 1, .inr (.inl g)))]) hP hD [0, 1] [2] rfl rfl (by decide) (by decide) hk1 hF ht hB
    obtain ⟨hE9, rfl⟩ := hw
    try dsimp only at hE9
    have hP : va_P D vwCl [(o, .inl (kA 4, 1, .inr (.inl g))), (h0, .inr (7, [.ref a, .int (nI 0), .int (nI 8), .int (nI 0), .int (nI 0), .int (nI 0), .int (nI 0)])), (a, .inl (kA 2, 4, .inr (.inr (.inr (.inr (fun _ => none))))))] H := hP
    have hD : va_D A [(o, .inl (kA 4, 1, .inr (.inl g))), (h0, .inr (7, [.ref a, .int (nI 0), .int (nI 8), .int (nI 0), .int (nI 0), .int (nI 0), .int (nI 0)])), (a, .inl (kA 2, 4, .inr (.inr (.inr (.inr (fun _ => none))))))] := hD
    subst hE9
    refine vx_catch (name := "java/lang/IndexOutOfBoundsException") hown [] ⟨0, 10, 13, 24⟩ [⟨0, 10, 17, 13⟩, ⟨0, 10, 21, 15⟩] (htab.trans rfl) (fun _ h => absurd h List.not_mem_nil) (by decide) (by decide) (wAt hts 5 (w := .classLink RL 24 "java/lang/IndexOutOfBoundsException") rfl) (va_Nw.use rfl (hG.2.2.2.1.2.2.2.1 _ (List.mem_of_getElem? (i := 21) rfl))) hc9 hv9 hcl9 ?_
    refine lv_astore (lv' := [(4, .ref q9), (0, .ref h0), (1, .int x0), (2, .int x1), (3, .ref o)]) hx hb dL_write_13 hl (by decide) rfl (fun ls hl => ?_)
    refine lv_iconst (v := nI 1) hx hb dL_write_15 (by decide) ?_
    have hP := hP.sub (ws' := [(h0, .inr (7, [.ref a, .int (nI 0), .int (nI 8), .int (nI 0), .int (nI 0), .int (nI 0), .int (nI 0)])), (a, .inl (kA 2, 4, .inr (.inr (.inr (.inr (fun _ => none)))))), (o, .inl (kA 4, 1, .inr (.inl g)))]) [1, 2, 0] rfl
    have hD := hD.sub (ws' := [(h0, .inr (7, [.ref a, .int (nI 0), .int (nI 8), .int (nI 0), .int (nI 0), .int (nI 0), .int (nI 0)])), (a, .inl (kA 2, 4, .inr (.inr (.inr (.inr (fun _ => none)))))), (o, .inl (kA 4, 1, .inr (.inl g)))]) [1, 2, 0] (by decide) rfl
    exact endI hx hb hr hlocks hK hP hD hS (⟨rfl, by first | rfl | assumption | omega | (rw [if_pos (by omega)]; first | done | rfl) | (rw [if_neg (by omega)]; first | done | rfl)⟩) (Nat.le_of_ble_eq_true rfl) (Nat.le_of_ble_eq_true rfl) dL_write_16
  · exact hw.elim

def wq_L_mark_e : List Cond := .codeWith yL_mark cL_mark 4 (some .int) [(0, 9, 12, 24), (0, 9, 15, 15)] :: (([.methodLink RL 26 yX6_mark, .instanceMethod yX6_mark, .selects RX6 yX6_mark yX6_mark, .initialized RX6, .classLink RL 24 "java/lang/IndexOutOfBoundsException"] : List Cond) ++ (wq_X6_mark_e ++ ([] : List Cond)))
theorem gd_L_mark_e : wq_L_mark_e.all goodWord = true := by decide +kernel
theorem h_L_mark_e_0 : GoodIn wq_L_mark_e (wsV RL 26 RX6 yX6_mark wq_X6_mark_e) := goodIn_app (goodIn_r _ [1, 2, 3, 4] (by decide +kernel) (by decide +kernel)) (goodIn_sub (fun w h => List.mem_cons_of_mem _ (List.mem_append_right _ (List.mem_append_left _ h))) gd_X6_mark_e)
set_option maxHeartbeats 4000000 in
set_option maxRecDepth 100000 in
theorem c_L_mark_e (l : Launch) (D : va_G) (kA : Nat → ClassId) (z : Nat) (hfl : l.stackTraces = false) (h0 a o : Nat) (x0 : Int32) (g : Nat → Int64)  : mI l D (tyL kA) z yL_mark wq_L_mark_e ({ frames := 8, cells := 1, slots := 6, locals := 142 }) [.ref h0, .int x0, .ref o] [(h0, .inr (7, [.ref a, .int (nI 0), .int (nI 8), .int (nI 0), .int (nI 0), .int (nI 0), .int (nI 0)])), (a, .inl (kA 2, 4, .inr (.inr (.inr (.inr (fun _ => none)))))), (o, .inl (kA 4, 1, .inr (.inl g)))] (fun r w => w = [(h0, .inr (7, [.ref a, .int (nI 0), .int (nI 8), .int (nI 0), .int (nI 0), .int (nI 0), .int (nI 0)])), (a, .inl (kA 2, 4, .inr (.inr (.inr (.inr (fun _ => none)))))), (o, .inl (kA 4, 1, .inr (.inl g)))] ∧ r = nI 1) := by
  refine ofWI (cc := cL_mark) (maxL := 4) RL rfl (by decide +kernel) rfl (Nat.le_of_ble_eq_true rfl) ?_
  intro p e s m args below meth c A ls htab hE
  obtain ⟨hx, hb, hr, hml, hts, hown, hlocks, hA, hS, hP, hK, hD, hG, hl⟩ := hE
  have hl : lv_has ls 4 [(0, .ref h0), (1, .int x0), (2, .ref o)] := hl
  have hH : s.heap = s.heap := rfl
  refine lv_aload_n hx hb dL_mark_0 rfl (lv_at hl 2 rfl) ?_
  refine lv_iconst (v := nI 0) hx hb dL_mark_1 (by decide) ?_
  refine lv_aload_n hx hb dL_mark_2 rfl (lv_at hl 0 rfl) ?_
  refine lv_iload_n hx hb dL_mark_3 rfl (lv_at hl 1 rfl) ?_
  have hF := va_free (wc := [(h0, .inr (7, [.ref a, .int (nI 0), .int (nI 8), .int (nI 0), .int (nI 0), .int (nI 0), .int (nI 0)])), (a, .inl (kA 2, 4, .inr (.inr (.inr (.inr (fun _ => none))))))]) hD hS hA [0, 1] rfl
  refine vx_calli (vx_runV (As := [.int x0]) (rest := [.int (nI 0), .ref o]) ⟨hx, hb, hml, hown, hts⟩ (c_X6_mark_e l D kA z hfl h0 a x0  _) (cwV 1 hts h_L_mark_e_0 rfl rfl rfl (by decide +kernel) ⟨Nat.le_of_ble_eq_true rfl, Nat.le_of_ble_eq_true rfl⟩) (fPv hK hP hD hS hG hF [0, 1] (by decide) rfl 0 7 rfl rfl rfl) rfl rfl hl.1 rfl (lv_room (Nat.le_of_ble_eq_true rfl)) dL_mark_4 ⟨Nat.le_of_ble_eq_true rfl, Nat.le_of_ble_eq_true rfl⟩) hS (fun q _ h => hF q h) hF (fun q _ h => hF q h) (fun E ce q9 u9 t H locs ht hvm hw hB hz1 hk1 hS hc9 hv9 hcl9 => ?_) (fun r_1 w1 t H locs ht hvm hw hB hz1 hk1 hS => ?_)
  ·
    obtain ⟨E9, w1⟩ := u9
    obtain ⟨e9, hB⟩ := hB
    have e9 : E9 = E := e9
    subst e9
    obtain ⟨hP, hD⟩ := fJ (wr := [(o, .inl (kA 4, 1, .inr (.inl g)))]) hP hD [0, 1] [2] rfl rfl (by decide) (by decide) hk1 hF ht hB
    obtain ⟨hE9, rfl⟩ := hw
    try dsimp only at hE9
    have hP : va_P D vwCl [(o, .inl (kA 4, 1, .inr (.inl g))), (h0, .inr (7, [.ref a, .int (nI 0), .int (nI 8), .int (nI 0), .int (nI 0), .int (nI 0), .int (nI 0)])), (a, .inl (kA 2, 4, .inr (.inr (.inr (.inr (fun _ => none))))))] H := hP
    have hD : va_D A [(o, .inl (kA 4, 1, .inr (.inl g))), (h0, .inr (7, [.ref a, .int (nI 0), .int (nI 8), .int (nI 0), .int (nI 0), .int (nI 0), .int (nI 0)])), (a, .inl (kA 2, 4, .inr (.inr (.inr (.inr (fun _ => none))))))] := hD
    subst hE9
    refine vx_catch (name := "java/lang/IndexOutOfBoundsException") hown [] ⟨0, 9, 12, 24⟩ [⟨0, 9, 15, 15⟩] (htab.trans rfl) (fun _ h => absurd h List.not_mem_nil) (by decide) (by decide) (wAt hts 5 (w := .classLink RL 24 "java/lang/IndexOutOfBoundsException") rfl) (va_Nw.use rfl (hG.2.2.2.1.2.2.2.1 _ (List.mem_of_getElem? (i := 21) rfl))) hc9 hv9 hcl9 ?_
    refine lv_astore_n (lv' := [(3, .ref q9), (0, .ref h0), (1, .int x0), (2, .ref o)]) hx hb dL_mark_12 rfl hl (by decide) rfl (fun ls hl => ?_)
    refine lv_iconst (v := nI 1) hx hb dL_mark_13 (by decide) ?_
    have hP := hP.sub (ws' := [(h0, .inr (7, [.ref a, .int (nI 0), .int (nI 8), .int (nI 0), .int (nI 0), .int (nI 0), .int (nI 0)])), (a, .inl (kA 2, 4, .inr (.inr (.inr (.inr (fun _ => none)))))), (o, .inl (kA 4, 1, .inr (.inl g)))]) [1, 2, 0] rfl
    have hD := hD.sub (ws' := [(h0, .inr (7, [.ref a, .int (nI 0), .int (nI 8), .int (nI 0), .int (nI 0), .int (nI 0), .int (nI 0)])), (a, .inl (kA 2, 4, .inr (.inr (.inr (.inr (fun _ => none)))))), (o, .inl (kA 4, 1, .inr (.inl g)))]) [1, 2, 0] (by decide) rfl
    exact endI hx hb hr hlocks hK hP hD hS (⟨rfl, by first | rfl | assumption | omega | (rw [if_pos (by omega)]; first | done | rfl) | (rw [if_neg (by omega)]; first | done | rfl)⟩) (Nat.le_of_ble_eq_true rfl) (Nat.le_of_ble_eq_true rfl) dL_mark_14
  · exact hw.elim

def wq_L_sector_e : List Cond := .codeWith yL_sector cL_sector 8 (some .int) [(0, 16, 19, 24), (0, 16, 23, 13), (0, 16, 27, 15)] :: (([.methodLink RL 29 yX6_sector, .instanceMethod yX6_sector, .selects RX6 yX6_sector yX6_sector, .initialized RX6, .classLink RL 24 "java/lang/IndexOutOfBoundsException"] : List Cond) ++ (wq_X6_sector_e ++ ([] : List Cond)))
theorem gd_L_sector_e : wq_L_sector_e.all goodWord = true := by decide +kernel
theorem h_L_sector_e_0 : GoodIn wq_L_sector_e (wsV RL 29 RX6 yX6_sector wq_X6_sector_e) := goodIn_app (goodIn_r _ [1, 2, 3, 4] (by decide +kernel) (by decide +kernel)) (goodIn_sub (fun w h => List.mem_cons_of_mem _ (List.mem_append_right _ (List.mem_append_left _ h))) gd_X6_sector_e)
set_option maxHeartbeats 4000000 in
set_option maxRecDepth 100000 in
theorem c_L_sector_e (l : Launch) (D : va_G) (kA : Nat → ClassId) (z : Nat) (hfl : l.stackTraces = false) (h0 a o : Nat) (x0 x1 x2 x3 x4 : Int32) (g : Nat → Int64)  : mI l D (tyL kA) z yL_sector wq_L_sector_e ({ frames := 8, cells := 1, slots := 6, locals := 146 }) [.ref h0, .int x0, .int x1, .int x2, .int x3, .int x4, .ref o] [(h0, .inr (7, [.ref a, .int (nI 0), .int (nI 8), .int (nI 0), .int (nI 0), .int (nI 0), .int (nI 0)])), (a, .inl (kA 2, 4, .inr (.inr (.inr (.inr (fun _ => none)))))), (o, .inl (kA 4, 1, .inr (.inl g)))] (fun r w => w = [(h0, .inr (7, [.ref a, .int (nI 0), .int (nI 8), .int (nI 0), .int (nI 0), .int (nI 0), .int (nI 0)])), (a, .inl (kA 2, 4, .inr (.inr (.inr (.inr (fun _ => none)))))), (o, .inl (kA 4, 1, .inr (.inl g)))] ∧ r = nI 1) := by
  refine ofWI (cc := cL_sector) (maxL := 8) RL rfl (by decide +kernel) rfl (Nat.le_of_ble_eq_true rfl) ?_
  intro p e s m args below meth c A ls htab hE
  obtain ⟨hx, hb, hr, hml, hts, hown, hlocks, hA, hS, hP, hK, hD, hG, hl⟩ := hE
  have hl : lv_has ls 8 [(0, .ref h0), (1, .int x0), (2, .int x1), (3, .int x2), (4, .int x3), (5, .int x4), (6, .ref o)] := hl
  have hH : s.heap = s.heap := rfl
  refine lv_aload hx hb dL_sector_0 (lv_at hl 6 rfl) ?_
  refine lv_iconst (v := nI 0) hx hb dL_sector_2 (by decide) ?_
  refine lv_aload_n hx hb dL_sector_3 rfl (lv_at hl 0 rfl) ?_
  refine lv_iload_n hx hb dL_sector_4 rfl (lv_at hl 1 rfl) ?_
  refine lv_iload_n hx hb dL_sector_5 rfl (lv_at hl 2 rfl) ?_
  refine lv_iload_n hx hb dL_sector_6 rfl (lv_at hl 3 rfl) ?_
  refine lv_iload hx hb dL_sector_7 (lv_at hl 4 rfl) ?_
  refine lv_iload hx hb dL_sector_9 (lv_at hl 5 rfl) ?_
  have hF := va_free (wc := [(h0, .inr (7, [.ref a, .int (nI 0), .int (nI 8), .int (nI 0), .int (nI 0), .int (nI 0), .int (nI 0)])), (a, .inl (kA 2, 4, .inr (.inr (.inr (.inr (fun _ => none))))))]) hD hS hA [0, 1] rfl
  refine vx_calli (vx_runV (As := [.int x0, .int x1, .int x2, .int x3, .int x4]) (rest := [.int (nI 0), .ref o]) ⟨hx, hb, hml, hown, hts⟩ (c_X6_sector_e l D kA z hfl h0 a x0 x1 x2 x3 x4  _) (cwV 5 hts h_L_sector_e_0 rfl rfl rfl (by decide +kernel) ⟨Nat.le_of_ble_eq_true rfl, Nat.le_of_ble_eq_true rfl⟩) (fPv hK hP hD hS hG hF [0, 1] (by decide) rfl 0 7 rfl rfl rfl) rfl rfl hl.1 rfl (lv_room (Nat.le_of_ble_eq_true rfl)) dL_sector_11 ⟨Nat.le_of_ble_eq_true rfl, Nat.le_of_ble_eq_true rfl⟩) hS (fun q _ h => hF q h) hF (fun q _ h => hF q h) (fun E ce q9 u9 t H locs ht hvm hw hB hz1 hk1 hS hc9 hv9 hcl9 => ?_) (fun r_1 w1 t H locs ht hvm hw hB hz1 hk1 hS => ?_)
  ·
    obtain ⟨E9, w1⟩ := u9
    obtain ⟨e9, hB⟩ := hB
    have e9 : E9 = E := e9
    subst e9
    obtain ⟨hP, hD⟩ := fJ (wr := [(o, .inl (kA 4, 1, .inr (.inl g)))]) hP hD [0, 1] [2] rfl rfl (by decide) (by decide) hk1 hF ht hB
    obtain ⟨hE9, rfl⟩ := hw
    try dsimp only at hE9
    have hP : va_P D vwCl [(o, .inl (kA 4, 1, .inr (.inl g))), (h0, .inr (7, [.ref a, .int (nI 0), .int (nI 8), .int (nI 0), .int (nI 0), .int (nI 0), .int (nI 0)])), (a, .inl (kA 2, 4, .inr (.inr (.inr (.inr (fun _ => none))))))] H := hP
    have hD : va_D A [(o, .inl (kA 4, 1, .inr (.inl g))), (h0, .inr (7, [.ref a, .int (nI 0), .int (nI 8), .int (nI 0), .int (nI 0), .int (nI 0), .int (nI 0)])), (a, .inl (kA 2, 4, .inr (.inr (.inr (.inr (fun _ => none))))))] := hD
    subst hE9
    refine vx_catch (name := "java/lang/IndexOutOfBoundsException") hown [] ⟨0, 16, 19, 24⟩ [⟨0, 16, 23, 13⟩, ⟨0, 16, 27, 15⟩] (htab.trans rfl) (fun _ h => absurd h List.not_mem_nil) (by decide) (by decide) (wAt hts 5 (w := .classLink RL 24 "java/lang/IndexOutOfBoundsException") rfl) (va_Nw.use rfl (hG.2.2.2.1.2.2.2.1 _ (List.mem_of_getElem? (i := 21) rfl))) hc9 hv9 hcl9 ?_
    refine lv_astore (lv' := [(7, .ref q9), (0, .ref h0), (1, .int x0), (2, .int x1), (3, .int x2), (4, .int x3), (5, .int x4), (6, .ref o)]) hx hb dL_sector_19 hl (by decide) rfl (fun ls hl => ?_)
    refine lv_iconst (v := nI 1) hx hb dL_sector_21 (by decide) ?_
    have hP := hP.sub (ws' := [(h0, .inr (7, [.ref a, .int (nI 0), .int (nI 8), .int (nI 0), .int (nI 0), .int (nI 0), .int (nI 0)])), (a, .inl (kA 2, 4, .inr (.inr (.inr (.inr (fun _ => none)))))), (o, .inl (kA 4, 1, .inr (.inl g)))]) [1, 2, 0] rfl
    have hD := hD.sub (ws' := [(h0, .inr (7, [.ref a, .int (nI 0), .int (nI 8), .int (nI 0), .int (nI 0), .int (nI 0), .int (nI 0)])), (a, .inl (kA 2, 4, .inr (.inr (.inr (.inr (fun _ => none)))))), (o, .inl (kA 4, 1, .inr (.inl g)))]) [1, 2, 0] (by decide) rfl
    exact endI hx hb hr hlocks hK hP hD hS (⟨rfl, by first | rfl | assumption | omega | (rw [if_pos (by omega)]; first | done | rfl) | (rw [if_neg (by omega)]; first | done | rfl)⟩) (Nat.le_of_ble_eq_true rfl) (Nat.le_of_ble_eq_true rfl) dL_sector_22
  · exact hw.elim

def wq_L_weak_e : List Cond := .codeWith yL_weak cL_weak 6 (some .int) [(0, 19, 22, 24)] :: (([.methodLink RL 33 yX6_weak, .instanceMethod yX6_weak, .selects RX6 yX6_weak yX6_weak, .initialized RX6, .classLink RL 24 "java/lang/IndexOutOfBoundsException"] : List Cond) ++ (wq_X6_weak_e ++ ([] : List Cond)))
theorem gd_L_weak_e : wq_L_weak_e.all goodWord = true := by decide +kernel
theorem h_L_weak_e_0 : GoodIn wq_L_weak_e (wsV RL 33 RX6 yX6_weak wq_X6_weak_e) := goodIn_app (goodIn_r _ [1, 2, 3, 4] (by decide +kernel) (by decide +kernel)) (goodIn_sub (fun w h => List.mem_cons_of_mem _ (List.mem_append_right _ (List.mem_append_left _ h))) gd_X6_weak_e)
set_option maxHeartbeats 4000000 in
set_option maxRecDepth 100000 in
theorem c_L_weak_e (l : Launch) (D : va_G) (kA : Nat → ClassId) (z : Nat) (hfl : l.stackTraces = false) (h0 a o : Nat) (x0 x1 x2 : Int32) (g : Nat → Int64)  : mI l D (tyL kA) z yL_weak wq_L_weak_e ({ frames := 8, cells := 1, slots := 6, locals := 145 }) [.ref h0, .int x0, .int x1, .int x2, .ref o] [(h0, .inr (7, [.ref a, .int (nI 0), .int (nI 8), .int (nI 0), .int (nI 0), .int (nI 0), .int (nI 0)])), (a, .inl (kA 2, 4, .inr (.inr (.inr (.inr (fun _ => none)))))), (o, .inl (kA 4, 1, .inr (.inl g)))] (fun r w => w = [(h0, .inr (7, [.ref a, .int (nI 0), .int (nI 8), .int (nI 0), .int (nI 0), .int (nI 0), .int (nI 0)])), (a, .inl (kA 2, 4, .inr (.inr (.inr (.inr (fun _ => none)))))), (o, .inl (kA 4, 1, .inr (.inl g)))] ∧ r = nI 1) := by
  refine ofWI (cc := cL_weak) (maxL := 6) RL rfl (by decide +kernel) rfl (Nat.le_of_ble_eq_true rfl) ?_
  intro p e s m args below meth c A ls htab hE
  obtain ⟨hx, hb, hr, hml, hts, hown, hlocks, hA, hS, hP, hK, hD, hG, hl⟩ := hE
  have hl : lv_has ls 6 [(0, .ref h0), (1, .int x0), (2, .int x1), (3, .int x2), (4, .ref o)] := hl
  have hH : s.heap = s.heap := rfl
  refine lv_aload hx hb dL_weak_0 (lv_at hl 4 rfl) ?_
  refine lv_iconst (v := nI 0) hx hb dL_weak_2 (by decide) ?_
  refine lv_aload_n hx hb dL_weak_3 rfl (lv_at hl 0 rfl) ?_
  refine lv_iload_n hx hb dL_weak_4 rfl (lv_at hl 1 rfl) ?_
  refine lv_iload_n hx hb dL_weak_5 rfl (lv_at hl 2 rfl) ?_
  refine lv_iload_n hx hb dL_weak_6 rfl (lv_at hl 3 rfl) ?_
  have hF := va_free (wc := [(h0, .inr (7, [.ref a, .int (nI 0), .int (nI 8), .int (nI 0), .int (nI 0), .int (nI 0), .int (nI 0)])), (a, .inl (kA 2, 4, .inr (.inr (.inr (.inr (fun _ => none))))))]) hD hS hA [0, 1] rfl
  refine vx_calli (vx_runV (As := [.int x0, .int x1, .int x2]) (rest := [.int (nI 0), .ref o]) ⟨hx, hb, hml, hown, hts⟩ (c_X6_weak_e l D kA z hfl h0 a x0 x1 x2  _) (cwV 3 hts h_L_weak_e_0 rfl rfl rfl (by decide +kernel) ⟨Nat.le_of_ble_eq_true rfl, Nat.le_of_ble_eq_true rfl⟩) (fPv hK hP hD hS hG hF [0, 1] (by decide) rfl 0 7 rfl rfl rfl) rfl rfl hl.1 rfl (lv_room (Nat.le_of_ble_eq_true rfl)) dL_weak_7 ⟨Nat.le_of_ble_eq_true rfl, Nat.le_of_ble_eq_true rfl⟩) hS (fun q _ h => hF q h) hF (fun q _ h => hF q h) (fun E ce q9 u9 t H locs ht hvm hw hB hz1 hk1 hS hc9 hv9 hcl9 => ?_) (fun r_1 w1 t H locs ht hvm hw hB hz1 hk1 hS => ?_)
  ·
    obtain ⟨E9, w1⟩ := u9
    obtain ⟨e9, hB⟩ := hB
    have e9 : E9 = E := e9
    subst e9
    obtain ⟨hP, hD⟩ := fJ (wr := [(o, .inl (kA 4, 1, .inr (.inl g)))]) hP hD [0, 1] [2] rfl rfl (by decide) (by decide) hk1 hF ht hB
    obtain ⟨hE9, rfl⟩ := hw
    try dsimp only at hE9
    have hP : va_P D vwCl [(o, .inl (kA 4, 1, .inr (.inl g))), (h0, .inr (7, [.ref a, .int (nI 0), .int (nI 8), .int (nI 0), .int (nI 0), .int (nI 0), .int (nI 0)])), (a, .inl (kA 2, 4, .inr (.inr (.inr (.inr (fun _ => none))))))] H := hP
    have hD : va_D A [(o, .inl (kA 4, 1, .inr (.inl g))), (h0, .inr (7, [.ref a, .int (nI 0), .int (nI 8), .int (nI 0), .int (nI 0), .int (nI 0), .int (nI 0)])), (a, .inl (kA 2, 4, .inr (.inr (.inr (.inr (fun _ => none))))))] := hD
    subst hE9
    refine vx_catch (name := "java/lang/IndexOutOfBoundsException") hown [] ⟨0, 19, 22, 24⟩ [] (htab.trans rfl) (fun _ h => absurd h List.not_mem_nil) (by decide) (by decide) (wAt hts 5 (w := .classLink RL 24 "java/lang/IndexOutOfBoundsException") rfl) (va_Nw.use rfl (hG.2.2.2.1.2.2.2.1 _ (List.mem_of_getElem? (i := 21) rfl))) hc9 hv9 hcl9 ?_
    refine lv_astore (lv' := [(5, .ref q9), (0, .ref h0), (1, .int x0), (2, .int x1), (3, .int x2), (4, .ref o)]) hx hb dL_weak_22 hl (by decide) rfl (fun ls hl => ?_)
    refine lv_iconst (v := nI 1) hx hb dL_weak_24 (by decide) ?_
    have hP := hP.sub (ws' := [(h0, .inr (7, [.ref a, .int (nI 0), .int (nI 8), .int (nI 0), .int (nI 0), .int (nI 0), .int (nI 0)])), (a, .inl (kA 2, 4, .inr (.inr (.inr (.inr (fun _ => none)))))), (o, .inl (kA 4, 1, .inr (.inl g)))]) [1, 2, 0] rfl
    have hD := hD.sub (ws' := [(h0, .inr (7, [.ref a, .int (nI 0), .int (nI 8), .int (nI 0), .int (nI 0), .int (nI 0), .int (nI 0)])), (a, .inl (kA 2, 4, .inr (.inr (.inr (.inr (fun _ => none)))))), (o, .inl (kA 4, 1, .inr (.inl g)))]) [1, 2, 0] (by decide) rfl
    exact endI hx hb hr hlocks hK hP hD hS (⟨rfl, by first | rfl | assumption | omega | (rw [if_pos (by omega)]; first | done | rfl) | (rw [if_neg (by omega)]; first | done | rfl)⟩) (Nat.le_of_ble_eq_true rfl) (Nat.le_of_ble_eq_true rfl) dL_weak_25
  · exact hw.elim

def wq_L_dirt_e : List Cond := .codeWith yL_dirt cL_dirt 6 (some .int) [(0, 12, 15, 24), (0, 12, 19, 13)] :: (([.methodLink RL 37 yX6_dirt, .instanceMethod yX6_dirt, .selects RX6 yX6_dirt yX6_dirt, .initialized RX6, .classLink RL 24 "java/lang/IndexOutOfBoundsException"] : List Cond) ++ (wq_X6_dirt_e ++ ([] : List Cond)))
theorem gd_L_dirt_e : wq_L_dirt_e.all goodWord = true := by decide +kernel
theorem h_L_dirt_e_0 : GoodIn wq_L_dirt_e (wsV RL 37 RX6 yX6_dirt wq_X6_dirt_e) := goodIn_app (goodIn_r _ [1, 2, 3, 4] (by decide +kernel) (by decide +kernel)) (goodIn_sub (fun w h => List.mem_cons_of_mem _ (List.mem_append_right _ (List.mem_append_left _ h))) gd_X6_dirt_e)
set_option maxHeartbeats 4000000 in
set_option maxRecDepth 100000 in
theorem c_L_dirt_e (l : Launch) (D : va_G) (kA : Nat → ClassId) (z : Nat) (hfl : l.stackTraces = false) (h0 a o : Nat) (x0 x1 x2 : Int32) (g : Nat → Int64)  : mI l D (tyL kA) z yL_dirt wq_L_dirt_e ({ frames := 8, cells := 1, slots := 6, locals := 144 }) [.ref h0, .int x0, .int x1, .int x2, .ref o] [(h0, .inr (7, [.ref a, .int (nI 0), .int (nI 8), .int (nI 0), .int (nI 0), .int (nI 0), .int (nI 0)])), (a, .inl (kA 2, 4, .inr (.inr (.inr (.inr (fun _ => none)))))), (o, .inl (kA 4, 1, .inr (.inl g)))] (fun r w => w = [(h0, .inr (7, [.ref a, .int (nI 0), .int (nI 8), .int (nI 0), .int (nI 0), .int (nI 0), .int (nI 0)])), (a, .inl (kA 2, 4, .inr (.inr (.inr (.inr (fun _ => none)))))), (o, .inl (kA 4, 1, .inr (.inl g)))] ∧ r = nI 1) := by
  refine ofWI (cc := cL_dirt) (maxL := 6) RL rfl (by decide +kernel) rfl (Nat.le_of_ble_eq_true rfl) ?_
  intro p e s m args below meth c A ls htab hE
  obtain ⟨hx, hb, hr, hml, hts, hown, hlocks, hA, hS, hP, hK, hD, hG, hl⟩ := hE
  have hl : lv_has ls 6 [(0, .ref h0), (1, .int x0), (2, .int x1), (3, .int x2), (4, .ref o)] := hl
  have hH : s.heap = s.heap := rfl
  refine lv_aload hx hb dL_dirt_0 (lv_at hl 4 rfl) ?_
  refine lv_iconst (v := nI 0) hx hb dL_dirt_2 (by decide) ?_
  refine lv_aload_n hx hb dL_dirt_3 rfl (lv_at hl 0 rfl) ?_
  refine lv_iload_n hx hb dL_dirt_4 rfl (lv_at hl 1 rfl) ?_
  refine lv_iload_n hx hb dL_dirt_5 rfl (lv_at hl 2 rfl) ?_
  refine lv_iload_n hx hb dL_dirt_6 rfl (lv_at hl 3 rfl) ?_
  have hF := va_free (wc := [(h0, .inr (7, [.ref a, .int (nI 0), .int (nI 8), .int (nI 0), .int (nI 0), .int (nI 0), .int (nI 0)])), (a, .inl (kA 2, 4, .inr (.inr (.inr (.inr (fun _ => none))))))]) hD hS hA [0, 1] rfl
  refine vx_calli (vx_runV (As := [.int x0, .int x1, .int x2]) (rest := [.int (nI 0), .ref o]) ⟨hx, hb, hml, hown, hts⟩ (c_X6_dirt_e l D kA z hfl h0 a x0 x1 x2  _) (cwV 3 hts h_L_dirt_e_0 rfl rfl rfl (by decide +kernel) ⟨Nat.le_of_ble_eq_true rfl, Nat.le_of_ble_eq_true rfl⟩) (fPv hK hP hD hS hG hF [0, 1] (by decide) rfl 0 7 rfl rfl rfl) rfl rfl hl.1 rfl (lv_room (Nat.le_of_ble_eq_true rfl)) dL_dirt_7 ⟨Nat.le_of_ble_eq_true rfl, Nat.le_of_ble_eq_true rfl⟩) hS (fun q _ h => hF q h) hF (fun q _ h => hF q h) (fun E ce q9 u9 t H locs ht hvm hw hB hz1 hk1 hS hc9 hv9 hcl9 => ?_) (fun r_1 w1 t H locs ht hvm hw hB hz1 hk1 hS => ?_)
  ·
    obtain ⟨E9, w1⟩ := u9
    obtain ⟨e9, hB⟩ := hB
    have e9 : E9 = E := e9
    subst e9
    obtain ⟨hP, hD⟩ := fJ (wr := [(o, .inl (kA 4, 1, .inr (.inl g)))]) hP hD [0, 1] [2] rfl rfl (by decide) (by decide) hk1 hF ht hB
    obtain ⟨hE9, rfl⟩ := hw
    try dsimp only at hE9
    have hP : va_P D vwCl [(o, .inl (kA 4, 1, .inr (.inl g))), (h0, .inr (7, [.ref a, .int (nI 0), .int (nI 8), .int (nI 0), .int (nI 0), .int (nI 0), .int (nI 0)])), (a, .inl (kA 2, 4, .inr (.inr (.inr (.inr (fun _ => none))))))] H := hP
    have hD : va_D A [(o, .inl (kA 4, 1, .inr (.inl g))), (h0, .inr (7, [.ref a, .int (nI 0), .int (nI 8), .int (nI 0), .int (nI 0), .int (nI 0), .int (nI 0)])), (a, .inl (kA 2, 4, .inr (.inr (.inr (.inr (fun _ => none))))))] := hD
    subst hE9
    refine vx_catch (name := "java/lang/IndexOutOfBoundsException") hown [] ⟨0, 12, 15, 24⟩ [⟨0, 12, 19, 13⟩] (htab.trans rfl) (fun _ h => absurd h List.not_mem_nil) (by decide) (by decide) (wAt hts 5 (w := .classLink RL 24 "java/lang/IndexOutOfBoundsException") rfl) (va_Nw.use rfl (hG.2.2.2.1.2.2.2.1 _ (List.mem_of_getElem? (i := 21) rfl))) hc9 hv9 hcl9 ?_
    refine lv_astore (lv' := [(5, .ref q9), (0, .ref h0), (1, .int x0), (2, .int x1), (3, .int x2), (4, .ref o)]) hx hb dL_dirt_15 hl (by decide) rfl (fun ls hl => ?_)
    refine lv_iconst (v := nI 1) hx hb dL_dirt_17 (by decide) ?_
    have hP := hP.sub (ws' := [(h0, .inr (7, [.ref a, .int (nI 0), .int (nI 8), .int (nI 0), .int (nI 0), .int (nI 0), .int (nI 0)])), (a, .inl (kA 2, 4, .inr (.inr (.inr (.inr (fun _ => none)))))), (o, .inl (kA 4, 1, .inr (.inl g)))]) [1, 2, 0] rfl
    have hD := hD.sub (ws' := [(h0, .inr (7, [.ref a, .int (nI 0), .int (nI 8), .int (nI 0), .int (nI 0), .int (nI 0), .int (nI 0)])), (a, .inl (kA 2, 4, .inr (.inr (.inr (.inr (fun _ => none)))))), (o, .inl (kA 4, 1, .inr (.inl g)))]) [1, 2, 0] (by decide) rfl
    exact endI hx hb hr hlocks hK hP hD hS (⟨rfl, by first | rfl | assumption | omega | (rw [if_pos (by omega)]; first | done | rfl) | (rw [if_neg (by omega)]; first | done | rfl)⟩) (Nat.le_of_ble_eq_true rfl) (Nat.le_of_ble_eq_true rfl) dL_dirt_18
  · exact hw.elim

def wq_L_clean_e : List Cond := .codeWith yL_clean cL_clean 4 (some .int) [(0, 9, 12, 24)] :: (([.methodLink RL 41 yX6_clean, .instanceMethod yX6_clean, .selects RX6 yX6_clean yX6_clean, .initialized RX6, .classLink RL 24 "java/lang/IndexOutOfBoundsException"] : List Cond) ++ (wq_X6_clean_e ++ ([] : List Cond)))
theorem gd_L_clean_e : wq_L_clean_e.all goodWord = true := by decide +kernel
theorem h_L_clean_e_0 : GoodIn wq_L_clean_e (wsV RL 41 RX6 yX6_clean wq_X6_clean_e) := goodIn_app (goodIn_r _ [1, 2, 3, 4] (by decide +kernel) (by decide +kernel)) (goodIn_sub (fun w h => List.mem_cons_of_mem _ (List.mem_append_right _ (List.mem_append_left _ h))) gd_X6_clean_e)
set_option maxHeartbeats 4000000 in
set_option maxRecDepth 100000 in
theorem c_L_clean_e (l : Launch) (D : va_G) (kA : Nat → ClassId) (z : Nat) (hfl : l.stackTraces = false) (h0 a o : Nat) (x0 : Int32) (g : Nat → Int64)  : mI l D (tyL kA) z yL_clean wq_L_clean_e ({ frames := 8, cells := 1, slots := 6, locals := 142 }) [.ref h0, .int x0, .ref o] [(h0, .inr (7, [.ref a, .int (nI 0), .int (nI 8), .int (nI 0), .int (nI 0), .int (nI 0), .int (nI 0)])), (a, .inl (kA 2, 4, .inr (.inr (.inr (.inr (fun _ => none)))))), (o, .inl (kA 4, 1, .inr (.inl g)))] (fun r w => w = [(h0, .inr (7, [.ref a, .int (nI 0), .int (nI 8), .int (nI 0), .int (nI 0), .int (nI 0), .int (nI 0)])), (a, .inl (kA 2, 4, .inr (.inr (.inr (.inr (fun _ => none)))))), (o, .inl (kA 4, 1, .inr (.inl g)))] ∧ r = nI 1) := by
  refine ofWI (cc := cL_clean) (maxL := 4) RL rfl (by decide +kernel) rfl (Nat.le_of_ble_eq_true rfl) ?_
  intro p e s m args below meth c A ls htab hE
  obtain ⟨hx, hb, hr, hml, hts, hown, hlocks, hA, hS, hP, hK, hD, hG, hl⟩ := hE
  have hl : lv_has ls 4 [(0, .ref h0), (1, .int x0), (2, .ref o)] := hl
  have hH : s.heap = s.heap := rfl
  refine lv_aload_n hx hb dL_clean_0 rfl (lv_at hl 2 rfl) ?_
  refine lv_iconst (v := nI 0) hx hb dL_clean_1 (by decide) ?_
  refine lv_aload_n hx hb dL_clean_2 rfl (lv_at hl 0 rfl) ?_
  refine lv_iload_n hx hb dL_clean_3 rfl (lv_at hl 1 rfl) ?_
  have hF := va_free (wc := [(h0, .inr (7, [.ref a, .int (nI 0), .int (nI 8), .int (nI 0), .int (nI 0), .int (nI 0), .int (nI 0)])), (a, .inl (kA 2, 4, .inr (.inr (.inr (.inr (fun _ => none))))))]) hD hS hA [0, 1] rfl
  refine vx_calli (vx_runV (As := [.int x0]) (rest := [.int (nI 0), .ref o]) ⟨hx, hb, hml, hown, hts⟩ (c_X6_clean_e l D kA z hfl h0 a x0  _) (cwV 1 hts h_L_clean_e_0 rfl rfl rfl (by decide +kernel) ⟨Nat.le_of_ble_eq_true rfl, Nat.le_of_ble_eq_true rfl⟩) (fPv hK hP hD hS hG hF [0, 1] (by decide) rfl 0 7 rfl rfl rfl) rfl rfl hl.1 rfl (lv_room (Nat.le_of_ble_eq_true rfl)) dL_clean_4 ⟨Nat.le_of_ble_eq_true rfl, Nat.le_of_ble_eq_true rfl⟩) hS (fun q _ h => hF q h) hF (fun q _ h => hF q h) (fun E ce q9 u9 t H locs ht hvm hw hB hz1 hk1 hS hc9 hv9 hcl9 => ?_) (fun r_1 w1 t H locs ht hvm hw hB hz1 hk1 hS => ?_)
  ·
    obtain ⟨E9, w1⟩ := u9
    obtain ⟨e9, hB⟩ := hB
    have e9 : E9 = E := e9
    subst e9
    obtain ⟨hP, hD⟩ := fJ (wr := [(o, .inl (kA 4, 1, .inr (.inl g)))]) hP hD [0, 1] [2] rfl rfl (by decide) (by decide) hk1 hF ht hB
    obtain ⟨hE9, rfl⟩ := hw
    try dsimp only at hE9
    have hP : va_P D vwCl [(o, .inl (kA 4, 1, .inr (.inl g))), (h0, .inr (7, [.ref a, .int (nI 0), .int (nI 8), .int (nI 0), .int (nI 0), .int (nI 0), .int (nI 0)])), (a, .inl (kA 2, 4, .inr (.inr (.inr (.inr (fun _ => none))))))] H := hP
    have hD : va_D A [(o, .inl (kA 4, 1, .inr (.inl g))), (h0, .inr (7, [.ref a, .int (nI 0), .int (nI 8), .int (nI 0), .int (nI 0), .int (nI 0), .int (nI 0)])), (a, .inl (kA 2, 4, .inr (.inr (.inr (.inr (fun _ => none))))))] := hD
    subst hE9
    refine vx_catch (name := "java/lang/IndexOutOfBoundsException") hown [] ⟨0, 9, 12, 24⟩ [] (htab.trans rfl) (fun _ h => absurd h List.not_mem_nil) (by decide) (by decide) (wAt hts 5 (w := .classLink RL 24 "java/lang/IndexOutOfBoundsException") rfl) (va_Nw.use rfl (hG.2.2.2.1.2.2.2.1 _ (List.mem_of_getElem? (i := 21) rfl))) hc9 hv9 hcl9 ?_
    refine lv_astore_n (lv' := [(3, .ref q9), (0, .ref h0), (1, .int x0), (2, .ref o)]) hx hb dL_clean_12 rfl hl (by decide) rfl (fun ls hl => ?_)
    refine lv_iconst (v := nI 1) hx hb dL_clean_13 (by decide) ?_
    have hP := hP.sub (ws' := [(h0, .inr (7, [.ref a, .int (nI 0), .int (nI 8), .int (nI 0), .int (nI 0), .int (nI 0), .int (nI 0)])), (a, .inl (kA 2, 4, .inr (.inr (.inr (.inr (fun _ => none)))))), (o, .inl (kA 4, 1, .inr (.inl g)))]) [1, 2, 0] rfl
    have hD := hD.sub (ws' := [(h0, .inr (7, [.ref a, .int (nI 0), .int (nI 8), .int (nI 0), .int (nI 0), .int (nI 0), .int (nI 0)])), (a, .inl (kA 2, 4, .inr (.inr (.inr (.inr (fun _ => none)))))), (o, .inl (kA 4, 1, .inr (.inl g)))]) [1, 2, 0] (by decide) rfl
    exact endI hx hb hr hlocks hK hP hD hS (⟨rfl, by first | rfl | assumption | omega | (rw [if_pos (by omega)]; first | done | rfl) | (rw [if_neg (by omega)]; first | done | rfl)⟩) (Nat.le_of_ble_eq_true rfl) (Nat.le_of_ble_eq_true rfl) dL_clean_14
  · exact hw.elim

def wq_L_read_e : List Cond := .codeWith yL_read cL_read 4 (some .int) [(0, 9, 12, 24), (0, 9, 15, 15)] :: (([.methodLink RL 44 yX6_read, .instanceMethod yX6_read, .selects RX6 yX6_read yX6_read, .initialized RX6, .classLink RL 24 "java/lang/IndexOutOfBoundsException"] : List Cond) ++ (wq_X6_read_e ++ ([] : List Cond)))
theorem gd_L_read_e : wq_L_read_e.all goodWord = true := by decide +kernel
theorem h_L_read_e_0 : GoodIn wq_L_read_e (wsV RL 44 RX6 yX6_read wq_X6_read_e) := goodIn_app (goodIn_r _ [1, 2, 3, 4] (by decide +kernel) (by decide +kernel)) (goodIn_sub (fun w h => List.mem_cons_of_mem _ (List.mem_append_right _ (List.mem_append_left _ h))) gd_X6_read_e)
set_option maxHeartbeats 4000000 in
set_option maxRecDepth 100000 in
theorem c_L_read_e (l : Launch) (D : va_G) (kA : Nat → ClassId) (z : Nat) (hfl : l.stackTraces = false) (h0 a o : Nat) (x0 : Int32) (g : Nat → Int64)  : mI l D (tyL kA) z yL_read wq_L_read_e ({ frames := 8, cells := 1, slots := 6, locals := 142 }) [.ref h0, .int x0, .ref o] [(h0, .inr (7, [.ref a, .int (nI 0), .int (nI 8), .int (nI 0), .int (nI 0), .int (nI 0), .int (nI 0)])), (a, .inl (kA 2, 4, .inr (.inr (.inr (.inr (fun _ => none)))))), (o, .inl (kA 4, 1, .inr (.inl g)))] (fun r w => w = [(h0, .inr (7, [.ref a, .int (nI 0), .int (nI 8), .int (nI 0), .int (nI 0), .int (nI 0), .int (nI 0)])), (a, .inl (kA 2, 4, .inr (.inr (.inr (.inr (fun _ => none)))))), (o, .inl (kA 4, 1, .inr (.inl g)))] ∧ r = nI 1) := by
  refine ofWI (cc := cL_read) (maxL := 4) RL rfl (by decide +kernel) rfl (Nat.le_of_ble_eq_true rfl) ?_
  intro p e s m args below meth c A ls htab hE
  obtain ⟨hx, hb, hr, hml, hts, hown, hlocks, hA, hS, hP, hK, hD, hG, hl⟩ := hE
  have hl : lv_has ls 4 [(0, .ref h0), (1, .int x0), (2, .ref o)] := hl
  have hH : s.heap = s.heap := rfl
  refine lv_aload_n hx hb dL_read_0 rfl (lv_at hl 2 rfl) ?_
  refine lv_iconst (v := nI 0) hx hb dL_read_1 (by decide) ?_
  refine lv_aload_n hx hb dL_read_2 rfl (lv_at hl 0 rfl) ?_
  refine lv_iload_n hx hb dL_read_3 rfl (lv_at hl 1 rfl) ?_
  have hF := va_free (wc := [(h0, .inr (7, [.ref a, .int (nI 0), .int (nI 8), .int (nI 0), .int (nI 0), .int (nI 0), .int (nI 0)])), (a, .inl (kA 2, 4, .inr (.inr (.inr (.inr (fun _ => none))))))]) hD hS hA [0, 1] rfl
  refine vx_calli (vx_runV (As := [.int x0]) (rest := [.int (nI 0), .ref o]) ⟨hx, hb, hml, hown, hts⟩ (c_X6_read_e l D kA z hfl h0 a x0  _) (cwV 1 hts h_L_read_e_0 rfl rfl rfl (by decide +kernel) ⟨Nat.le_of_ble_eq_true rfl, Nat.le_of_ble_eq_true rfl⟩) (fPv hK hP hD hS hG hF [0, 1] (by decide) rfl 0 7 rfl rfl rfl) rfl rfl hl.1 rfl (lv_room (Nat.le_of_ble_eq_true rfl)) dL_read_4 ⟨Nat.le_of_ble_eq_true rfl, Nat.le_of_ble_eq_true rfl⟩) hS (fun q _ h => hF q h) hF (fun q _ h => hF q h) (fun E ce q9 u9 t H locs ht hvm hw hB hz1 hk1 hS hc9 hv9 hcl9 => ?_) (fun r_1 w1 t H locs ht hvm hw hB hz1 hk1 hS => ?_)
  ·
    obtain ⟨E9, w1⟩ := u9
    obtain ⟨e9, hB⟩ := hB
    have e9 : E9 = E := e9
    subst e9
    obtain ⟨hP, hD⟩ := fJ (wr := [(o, .inl (kA 4, 1, .inr (.inl g)))]) hP hD [0, 1] [2] rfl rfl (by decide) (by decide) hk1 hF ht hB
    obtain ⟨hE9, rfl⟩ := hw
    try dsimp only at hE9
    have hP : va_P D vwCl [(o, .inl (kA 4, 1, .inr (.inl g))), (h0, .inr (7, [.ref a, .int (nI 0), .int (nI 8), .int (nI 0), .int (nI 0), .int (nI 0), .int (nI 0)])), (a, .inl (kA 2, 4, .inr (.inr (.inr (.inr (fun _ => none))))))] H := hP
    have hD : va_D A [(o, .inl (kA 4, 1, .inr (.inl g))), (h0, .inr (7, [.ref a, .int (nI 0), .int (nI 8), .int (nI 0), .int (nI 0), .int (nI 0), .int (nI 0)])), (a, .inl (kA 2, 4, .inr (.inr (.inr (.inr (fun _ => none))))))] := hD
    subst hE9
    refine vx_catch (name := "java/lang/IndexOutOfBoundsException") hown [] ⟨0, 9, 12, 24⟩ [⟨0, 9, 15, 15⟩] (htab.trans rfl) (fun _ h => absurd h List.not_mem_nil) (by decide) (by decide) (wAt hts 5 (w := .classLink RL 24 "java/lang/IndexOutOfBoundsException") rfl) (va_Nw.use rfl (hG.2.2.2.1.2.2.2.1 _ (List.mem_of_getElem? (i := 21) rfl))) hc9 hv9 hcl9 ?_
    refine lv_astore_n (lv' := [(3, .ref q9), (0, .ref h0), (1, .int x0), (2, .ref o)]) hx hb dL_read_12 rfl hl (by decide) rfl (fun ls hl => ?_)
    refine lv_iconst (v := nI 1) hx hb dL_read_13 (by decide) ?_
    have hP := hP.sub (ws' := [(h0, .inr (7, [.ref a, .int (nI 0), .int (nI 8), .int (nI 0), .int (nI 0), .int (nI 0), .int (nI 0)])), (a, .inl (kA 2, 4, .inr (.inr (.inr (.inr (fun _ => none)))))), (o, .inl (kA 4, 1, .inr (.inl g)))]) [1, 2, 0] rfl
    have hD := hD.sub (ws' := [(h0, .inr (7, [.ref a, .int (nI 0), .int (nI 8), .int (nI 0), .int (nI 0), .int (nI 0), .int (nI 0)])), (a, .inl (kA 2, 4, .inr (.inr (.inr (.inr (fun _ => none)))))), (o, .inl (kA 4, 1, .inr (.inl g)))]) [1, 2, 0] (by decide) rfl
    exact endI hx hb hr hlocks hK hP hD hS (⟨rfl, by first | rfl | assumption | omega | (rw [if_pos (by omega)]; first | done | rfl) | (rw [if_neg (by omega)]; first | done | rfl)⟩) (Nat.le_of_ble_eq_true rfl) (Nat.le_of_ble_eq_true rfl) dL_read_14
  · exact hw.elim

def wq_L_copy_e : List Cond := .codeWith yL_copy cL_copy 6 (some .int) [(0, 12, 15, 24), (0, 12, 19, 13), (0, 12, 23, 15)] :: (([.methodLink RL 47 yX6_copy, .instanceMethod yX6_copy, .selects RX6 yX6_copy yX6_copy, .initialized RX6, .classLink RL 24 "java/lang/IndexOutOfBoundsException"] : List Cond) ++ (wq_X6_copy_e ++ ([] : List Cond)))
theorem gd_L_copy_e : wq_L_copy_e.all goodWord = true := by decide +kernel
theorem h_L_copy_e_0 : GoodIn wq_L_copy_e (wsV RL 47 RX6 yX6_copy wq_X6_copy_e) := goodIn_app (goodIn_r _ [1, 2, 3, 4] (by decide +kernel) (by decide +kernel)) (goodIn_sub (fun w h => List.mem_cons_of_mem _ (List.mem_append_right _ (List.mem_append_left _ h))) gd_X6_copy_e)
set_option maxHeartbeats 4000000 in
set_option maxRecDepth 100000 in
theorem c_L_copy_e (l : Launch) (D : va_G) (kA : Nat → ClassId) (z : Nat) (hfl : l.stackTraces = false) (h0 a o : Nat) (x0 x1 x2 : Int32) (g : Nat → Int64)  : mI l D (tyL kA) z yL_copy wq_L_copy_e ({ frames := 8, cells := 1, slots := 6, locals := 145 }) [.ref h0, .int x0, .int x1, .int x2, .ref o] [(h0, .inr (7, [.ref a, .int (nI 0), .int (nI 8), .int (nI 0), .int (nI 0), .int (nI 0), .int (nI 0)])), (a, .inl (kA 2, 4, .inr (.inr (.inr (.inr (fun _ => none)))))), (o, .inl (kA 4, 1, .inr (.inl g)))] (fun r w => w = [(h0, .inr (7, [.ref a, .int (nI 0), .int (nI 8), .int (nI 0), .int (nI 0), .int (nI 0), .int (nI 0)])), (a, .inl (kA 2, 4, .inr (.inr (.inr (.inr (fun _ => none)))))), (o, .inl (kA 4, 1, .inr (.inl g)))] ∧ r = nI 1) := by
  refine ofWI (cc := cL_copy) (maxL := 6) RL rfl (by decide +kernel) rfl (Nat.le_of_ble_eq_true rfl) ?_
  intro p e s m args below meth c A ls htab hE
  obtain ⟨hx, hb, hr, hml, hts, hown, hlocks, hA, hS, hP, hK, hD, hG, hl⟩ := hE
  have hl : lv_has ls 6 [(0, .ref h0), (1, .int x0), (2, .int x1), (3, .int x2), (4, .ref o)] := hl
  have hH : s.heap = s.heap := rfl
  refine lv_aload hx hb dL_copy_0 (lv_at hl 4 rfl) ?_
  refine lv_iconst (v := nI 0) hx hb dL_copy_2 (by decide) ?_
  refine lv_aload_n hx hb dL_copy_3 rfl (lv_at hl 0 rfl) ?_
  refine lv_iload_n hx hb dL_copy_4 rfl (lv_at hl 1 rfl) ?_
  refine lv_iload_n hx hb dL_copy_5 rfl (lv_at hl 2 rfl) ?_
  refine lv_iload_n hx hb dL_copy_6 rfl (lv_at hl 3 rfl) ?_
  have hF := va_free (wc := [(h0, .inr (7, [.ref a, .int (nI 0), .int (nI 8), .int (nI 0), .int (nI 0), .int (nI 0), .int (nI 0)])), (a, .inl (kA 2, 4, .inr (.inr (.inr (.inr (fun _ => none))))))]) hD hS hA [0, 1] rfl
  refine vx_calli (vx_runV (As := [.int x0, .int x1, .int x2]) (rest := [.int (nI 0), .ref o]) ⟨hx, hb, hml, hown, hts⟩ (c_X6_copy_e l D kA z hfl h0 a x0 x1 x2  _) (cwV 3 hts h_L_copy_e_0 rfl rfl rfl (by decide +kernel) ⟨Nat.le_of_ble_eq_true rfl, Nat.le_of_ble_eq_true rfl⟩) (fPv hK hP hD hS hG hF [0, 1] (by decide) rfl 0 7 rfl rfl rfl) rfl rfl hl.1 rfl (lv_room (Nat.le_of_ble_eq_true rfl)) dL_copy_7 ⟨Nat.le_of_ble_eq_true rfl, Nat.le_of_ble_eq_true rfl⟩) hS (fun q _ h => hF q h) hF (fun q _ h => hF q h) (fun E ce q9 u9 t H locs ht hvm hw hB hz1 hk1 hS hc9 hv9 hcl9 => ?_) (fun r_1 w1 t H locs ht hvm hw hB hz1 hk1 hS => ?_)
  ·
    obtain ⟨E9, w1⟩ := u9
    obtain ⟨e9, hB⟩ := hB
    have e9 : E9 = E := e9
    subst e9
    obtain ⟨hP, hD⟩ := fJ (wr := [(o, .inl (kA 4, 1, .inr (.inl g)))]) hP hD [0, 1] [2] rfl rfl (by decide) (by decide) hk1 hF ht hB
    obtain ⟨hE9, rfl⟩ := hw
    try dsimp only at hE9
    have hP : va_P D vwCl [(o, .inl (kA 4, 1, .inr (.inl g))), (h0, .inr (7, [.ref a, .int (nI 0), .int (nI 8), .int (nI 0), .int (nI 0), .int (nI 0), .int (nI 0)])), (a, .inl (kA 2, 4, .inr (.inr (.inr (.inr (fun _ => none))))))] H := hP
    have hD : va_D A [(o, .inl (kA 4, 1, .inr (.inl g))), (h0, .inr (7, [.ref a, .int (nI 0), .int (nI 8), .int (nI 0), .int (nI 0), .int (nI 0), .int (nI 0)])), (a, .inl (kA 2, 4, .inr (.inr (.inr (.inr (fun _ => none))))))] := hD
    subst hE9
    refine vx_catch (name := "java/lang/IndexOutOfBoundsException") hown [] ⟨0, 12, 15, 24⟩ [⟨0, 12, 19, 13⟩, ⟨0, 12, 23, 15⟩] (htab.trans rfl) (fun _ h => absurd h List.not_mem_nil) (by decide) (by decide) (wAt hts 5 (w := .classLink RL 24 "java/lang/IndexOutOfBoundsException") rfl) (va_Nw.use rfl (hG.2.2.2.1.2.2.2.1 _ (List.mem_of_getElem? (i := 21) rfl))) hc9 hv9 hcl9 ?_
    refine lv_astore (lv' := [(5, .ref q9), (0, .ref h0), (1, .int x0), (2, .int x1), (3, .int x2), (4, .ref o)]) hx hb dL_copy_15 hl (by decide) rfl (fun ls hl => ?_)
    refine lv_iconst (v := nI 1) hx hb dL_copy_17 (by decide) ?_
    have hP := hP.sub (ws' := [(h0, .inr (7, [.ref a, .int (nI 0), .int (nI 8), .int (nI 0), .int (nI 0), .int (nI 0), .int (nI 0)])), (a, .inl (kA 2, 4, .inr (.inr (.inr (.inr (fun _ => none)))))), (o, .inl (kA 4, 1, .inr (.inl g)))]) [1, 2, 0] rfl
    have hD := hD.sub (ws' := [(h0, .inr (7, [.ref a, .int (nI 0), .int (nI 8), .int (nI 0), .int (nI 0), .int (nI 0), .int (nI 0)])), (a, .inl (kA 2, 4, .inr (.inr (.inr (.inr (fun _ => none)))))), (o, .inl (kA 4, 1, .inr (.inl g)))]) [1, 2, 0] (by decide) rfl
    exact endI hx hb hr hlocks hK hP hD hS (⟨rfl, by first | rfl | assumption | omega | (rw [if_pos (by omega)]; first | done | rfl) | (rw [if_neg (by omega)]; first | done | rfl)⟩) (Nat.le_of_ble_eq_true rfl) (Nat.le_of_ble_eq_true rfl) dL_copy_18
  · exact hw.elim

def wq_L_ofCell_e : List Cond := .codeWith yL_ofCell cL_ofCell 6 (some .int) [(0, 12, 15, 24), (0, 12, 19, 13)] :: (([.methodLink RL 51 yX6_ofCell, .instanceMethod yX6_ofCell, .selects RX6 yX6_ofCell yX6_ofCell, .initialized RX6, .classLink RL 24 "java/lang/IndexOutOfBoundsException"] : List Cond) ++ (wq_X6_ofCell_e ++ ([] : List Cond)))
theorem gd_L_ofCell_e : wq_L_ofCell_e.all goodWord = true := by decide +kernel
theorem h_L_ofCell_e_0 : GoodIn wq_L_ofCell_e (wsV RL 51 RX6 yX6_ofCell wq_X6_ofCell_e) := goodIn_app (goodIn_r _ [1, 2, 3, 4] (by decide +kernel) (by decide +kernel)) (goodIn_sub (fun w h => List.mem_cons_of_mem _ (List.mem_append_right _ (List.mem_append_left _ h))) gd_X6_ofCell_e)
set_option maxHeartbeats 4000000 in
set_option maxRecDepth 100000 in
theorem c_L_ofCell_e (l : Launch) (D : va_G) (kA : Nat → ClassId) (z : Nat) (hfl : l.stackTraces = false) (h0 a o : Nat) (x0 x1 x2 : Int32) (g : Nat → Int64)  : mI l D (tyL kA) z yL_ofCell wq_L_ofCell_e ({ frames := 8, cells := 1, slots := 6, locals := 144 }) [.ref h0, .int x0, .int x1, .int x2, .ref o] [(h0, .inr (7, [.ref a, .int (nI 0), .int (nI 8), .int (nI 0), .int (nI 0), .int (nI 0), .int (nI 0)])), (a, .inl (kA 2, 4, .inr (.inr (.inr (.inr (fun _ => none)))))), (o, .inl (kA 4, 1, .inr (.inl g)))] (fun r w => w = [(h0, .inr (7, [.ref a, .int (nI 0), .int (nI 8), .int (nI 0), .int (nI 0), .int (nI 0), .int (nI 0)])), (a, .inl (kA 2, 4, .inr (.inr (.inr (.inr (fun _ => none)))))), (o, .inl (kA 4, 1, .inr (.inl g)))] ∧ r = nI 1) := by
  refine ofWI (cc := cL_ofCell) (maxL := 6) RL rfl (by decide +kernel) rfl (Nat.le_of_ble_eq_true rfl) ?_
  intro p e s m args below meth c A ls htab hE
  obtain ⟨hx, hb, hr, hml, hts, hown, hlocks, hA, hS, hP, hK, hD, hG, hl⟩ := hE
  have hl : lv_has ls 6 [(0, .ref h0), (1, .int x0), (2, .int x1), (3, .int x2), (4, .ref o)] := hl
  have hH : s.heap = s.heap := rfl
  refine lv_aload hx hb dL_ofCell_0 (lv_at hl 4 rfl) ?_
  refine lv_iconst (v := nI 0) hx hb dL_ofCell_2 (by decide) ?_
  refine lv_aload_n hx hb dL_ofCell_3 rfl (lv_at hl 0 rfl) ?_
  refine lv_iload_n hx hb dL_ofCell_4 rfl (lv_at hl 1 rfl) ?_
  refine lv_iload_n hx hb dL_ofCell_5 rfl (lv_at hl 2 rfl) ?_
  refine lv_iload_n hx hb dL_ofCell_6 rfl (lv_at hl 3 rfl) ?_
  have hF := va_free (wc := [(h0, .inr (7, [.ref a, .int (nI 0), .int (nI 8), .int (nI 0), .int (nI 0), .int (nI 0), .int (nI 0)])), (a, .inl (kA 2, 4, .inr (.inr (.inr (.inr (fun _ => none))))))]) hD hS hA [0, 1] rfl
  refine vx_calli (vx_runV (As := [.int x0, .int x1, .int x2]) (rest := [.int (nI 0), .ref o]) ⟨hx, hb, hml, hown, hts⟩ (c_X6_ofCell_e l D kA z hfl h0 a x0 x1 x2  _) (cwV 3 hts h_L_ofCell_e_0 rfl rfl rfl (by decide +kernel) ⟨Nat.le_of_ble_eq_true rfl, Nat.le_of_ble_eq_true rfl⟩) (fPv hK hP hD hS hG hF [0, 1] (by decide) rfl 0 7 rfl rfl rfl) rfl rfl hl.1 rfl (lv_room (Nat.le_of_ble_eq_true rfl)) dL_ofCell_7 ⟨Nat.le_of_ble_eq_true rfl, Nat.le_of_ble_eq_true rfl⟩) hS (fun q _ h => hF q h) hF (fun q _ h => hF q h) (fun E ce q9 u9 t H locs ht hvm hw hB hz1 hk1 hS hc9 hv9 hcl9 => ?_) (fun r_1 w1 t H locs ht hvm hw hB hz1 hk1 hS => ?_)
  ·
    obtain ⟨E9, w1⟩ := u9
    obtain ⟨e9, hB⟩ := hB
    have e9 : E9 = E := e9
    subst e9
    obtain ⟨hP, hD⟩ := fJ (wr := [(o, .inl (kA 4, 1, .inr (.inl g)))]) hP hD [0, 1] [2] rfl rfl (by decide) (by decide) hk1 hF ht hB
    obtain ⟨hE9, rfl⟩ := hw
    try dsimp only at hE9
    have hP : va_P D vwCl [(o, .inl (kA 4, 1, .inr (.inl g))), (h0, .inr (7, [.ref a, .int (nI 0), .int (nI 8), .int (nI 0), .int (nI 0), .int (nI 0), .int (nI 0)])), (a, .inl (kA 2, 4, .inr (.inr (.inr (.inr (fun _ => none))))))] H := hP
    have hD : va_D A [(o, .inl (kA 4, 1, .inr (.inl g))), (h0, .inr (7, [.ref a, .int (nI 0), .int (nI 8), .int (nI 0), .int (nI 0), .int (nI 0), .int (nI 0)])), (a, .inl (kA 2, 4, .inr (.inr (.inr (.inr (fun _ => none))))))] := hD
    subst hE9
    refine vx_catch (name := "java/lang/IndexOutOfBoundsException") hown [] ⟨0, 12, 15, 24⟩ [⟨0, 12, 19, 13⟩] (htab.trans rfl) (fun _ h => absurd h List.not_mem_nil) (by decide) (by decide) (wAt hts 5 (w := .classLink RL 24 "java/lang/IndexOutOfBoundsException") rfl) (va_Nw.use rfl (hG.2.2.2.1.2.2.2.1 _ (List.mem_of_getElem? (i := 21) rfl))) hc9 hv9 hcl9 ?_
    refine lv_astore (lv' := [(5, .ref q9), (0, .ref h0), (1, .int x0), (2, .int x1), (3, .int x2), (4, .ref o)]) hx hb dL_ofCell_15 hl (by decide) rfl (fun ls hl => ?_)
    refine lv_iconst (v := nI 1) hx hb dL_ofCell_17 (by decide) ?_
    have hP := hP.sub (ws' := [(h0, .inr (7, [.ref a, .int (nI 0), .int (nI 8), .int (nI 0), .int (nI 0), .int (nI 0), .int (nI 0)])), (a, .inl (kA 2, 4, .inr (.inr (.inr (.inr (fun _ => none)))))), (o, .inl (kA 4, 1, .inr (.inl g)))]) [1, 2, 0] rfl
    have hD := hD.sub (ws' := [(h0, .inr (7, [.ref a, .int (nI 0), .int (nI 8), .int (nI 0), .int (nI 0), .int (nI 0), .int (nI 0)])), (a, .inl (kA 2, 4, .inr (.inr (.inr (.inr (fun _ => none)))))), (o, .inl (kA 4, 1, .inr (.inl g)))]) [1, 2, 0] (by decide) rfl
    exact endI hx hb hr hlocks hK hP hD hS (⟨rfl, by first | rfl | assumption | omega | (rw [if_pos (by omega)]; first | done | rfl) | (rw [if_neg (by omega)]; first | done | rfl)⟩) (Nat.le_of_ble_eq_true rfl) (Nat.le_of_ble_eq_true rfl) dL_ofCell_18
  · exact hw.elim

def wq_L_ofTrack_e : List Cond := .codeWith yL_ofTrack cL_ofTrack 5 (some .int) [(0, 10, 13, 24), (0, 10, 17, 13)] :: (([.methodLink RL 54 yX6_ofTrack, .instanceMethod yX6_ofTrack, .selects RX6 yX6_ofTrack yX6_ofTrack, .initialized RX6, .classLink RL 24 "java/lang/IndexOutOfBoundsException"] : List Cond) ++ (wq_X6_ofTrack_e ++ ([] : List Cond)))
theorem gd_L_ofTrack_e : wq_L_ofTrack_e.all goodWord = true := by decide +kernel
theorem h_L_ofTrack_e_0 : GoodIn wq_L_ofTrack_e (wsV RL 54 RX6 yX6_ofTrack wq_X6_ofTrack_e) := goodIn_app (goodIn_r _ [1, 2, 3, 4] (by decide +kernel) (by decide +kernel)) (goodIn_sub (fun w h => List.mem_cons_of_mem _ (List.mem_append_right _ (List.mem_append_left _ h))) gd_X6_ofTrack_e)
set_option maxHeartbeats 4000000 in
set_option maxRecDepth 100000 in
theorem c_L_ofTrack_e (l : Launch) (D : va_G) (kA : Nat → ClassId) (z : Nat) (hfl : l.stackTraces = false) (h0 a o : Nat) (x0 x1 : Int32) (g : Nat → Int64)  : mI l D (tyL kA) z yL_ofTrack wq_L_ofTrack_e ({ frames := 8, cells := 1, slots := 6, locals := 143 }) [.ref h0, .int x0, .int x1, .ref o] [(h0, .inr (7, [.ref a, .int (nI 0), .int (nI 8), .int (nI 0), .int (nI 0), .int (nI 0), .int (nI 0)])), (a, .inl (kA 2, 4, .inr (.inr (.inr (.inr (fun _ => none)))))), (o, .inl (kA 4, 1, .inr (.inl g)))] (fun r w => w = [(h0, .inr (7, [.ref a, .int (nI 0), .int (nI 8), .int (nI 0), .int (nI 0), .int (nI 0), .int (nI 0)])), (a, .inl (kA 2, 4, .inr (.inr (.inr (.inr (fun _ => none)))))), (o, .inl (kA 4, 1, .inr (.inl g)))] ∧ r = nI 1) := by
  refine ofWI (cc := cL_ofTrack) (maxL := 5) RL rfl (by decide +kernel) rfl (Nat.le_of_ble_eq_true rfl) ?_
  intro p e s m args below meth c A ls htab hE
  obtain ⟨hx, hb, hr, hml, hts, hown, hlocks, hA, hS, hP, hK, hD, hG, hl⟩ := hE
  have hl : lv_has ls 5 [(0, .ref h0), (1, .int x0), (2, .int x1), (3, .ref o)] := hl
  have hH : s.heap = s.heap := rfl
  refine lv_aload_n hx hb dL_ofTrack_0 rfl (lv_at hl 3 rfl) ?_
  refine lv_iconst (v := nI 0) hx hb dL_ofTrack_1 (by decide) ?_
  refine lv_aload_n hx hb dL_ofTrack_2 rfl (lv_at hl 0 rfl) ?_
  refine lv_iload_n hx hb dL_ofTrack_3 rfl (lv_at hl 1 rfl) ?_
  refine lv_iload_n hx hb dL_ofTrack_4 rfl (lv_at hl 2 rfl) ?_
  have hF := va_free (wc := [(h0, .inr (7, [.ref a, .int (nI 0), .int (nI 8), .int (nI 0), .int (nI 0), .int (nI 0), .int (nI 0)])), (a, .inl (kA 2, 4, .inr (.inr (.inr (.inr (fun _ => none))))))]) hD hS hA [0, 1] rfl
  refine vx_calli (vx_runV (As := [.int x0, .int x1]) (rest := [.int (nI 0), .ref o]) ⟨hx, hb, hml, hown, hts⟩ (c_X6_ofTrack_e l D kA z hfl h0 a x0 x1  _) (cwV 2 hts h_L_ofTrack_e_0 rfl rfl rfl (by decide +kernel) ⟨Nat.le_of_ble_eq_true rfl, Nat.le_of_ble_eq_true rfl⟩) (fPv hK hP hD hS hG hF [0, 1] (by decide) rfl 0 7 rfl rfl rfl) rfl rfl hl.1 rfl (lv_room (Nat.le_of_ble_eq_true rfl)) dL_ofTrack_5 ⟨Nat.le_of_ble_eq_true rfl, Nat.le_of_ble_eq_true rfl⟩) hS (fun q _ h => hF q h) hF (fun q _ h => hF q h) (fun E ce q9 u9 t H locs ht hvm hw hB hz1 hk1 hS hc9 hv9 hcl9 => ?_) (fun r_1 w1 t H locs ht hvm hw hB hz1 hk1 hS => ?_)
  ·
    obtain ⟨E9, w1⟩ := u9
    obtain ⟨e9, hB⟩ := hB
    have e9 : E9 = E := e9
    subst e9
    obtain ⟨hP, hD⟩ := fJ (wr := [(o, .inl (kA 4, 1, .inr (.inl g)))]) hP hD [0, 1] [2] rfl rfl (by decide) (by decide) hk1 hF ht hB
    obtain ⟨hE9, rfl⟩ := hw
    try dsimp only at hE9
    have hP : va_P D vwCl [(o, .inl (kA 4, 1, .inr (.inl g))), (h0, .inr (7, [.ref a, .int (nI 0), .int (nI 8), .int (nI 0), .int (nI 0), .int (nI 0), .int (nI 0)])), (a, .inl (kA 2, 4, .inr (.inr (.inr (.inr (fun _ => none))))))] H := hP
    have hD : va_D A [(o, .inl (kA 4, 1, .inr (.inl g))), (h0, .inr (7, [.ref a, .int (nI 0), .int (nI 8), .int (nI 0), .int (nI 0), .int (nI 0), .int (nI 0)])), (a, .inl (kA 2, 4, .inr (.inr (.inr (.inr (fun _ => none))))))] := hD
    subst hE9
    refine vx_catch (name := "java/lang/IndexOutOfBoundsException") hown [] ⟨0, 10, 13, 24⟩ [⟨0, 10, 17, 13⟩] (htab.trans rfl) (fun _ h => absurd h List.not_mem_nil) (by decide) (by decide) (wAt hts 5 (w := .classLink RL 24 "java/lang/IndexOutOfBoundsException") rfl) (va_Nw.use rfl (hG.2.2.2.1.2.2.2.1 _ (List.mem_of_getElem? (i := 21) rfl))) hc9 hv9 hcl9 ?_
    refine lv_astore (lv' := [(4, .ref q9), (0, .ref h0), (1, .int x0), (2, .int x1), (3, .ref o)]) hx hb dL_ofTrack_13 hl (by decide) rfl (fun ls hl => ?_)
    refine lv_iconst (v := nI 1) hx hb dL_ofTrack_15 (by decide) ?_
    have hP := hP.sub (ws' := [(h0, .inr (7, [.ref a, .int (nI 0), .int (nI 8), .int (nI 0), .int (nI 0), .int (nI 0), .int (nI 0)])), (a, .inl (kA 2, 4, .inr (.inr (.inr (.inr (fun _ => none)))))), (o, .inl (kA 4, 1, .inr (.inl g)))]) [1, 2, 0] rfl
    have hD := hD.sub (ws' := [(h0, .inr (7, [.ref a, .int (nI 0), .int (nI 8), .int (nI 0), .int (nI 0), .int (nI 0), .int (nI 0)])), (a, .inl (kA 2, 4, .inr (.inr (.inr (.inr (fun _ => none)))))), (o, .inl (kA 4, 1, .inr (.inl g)))]) [1, 2, 0] (by decide) rfl
    exact endI hx hb hr hlocks hK hP hD hS (⟨rfl, by first | rfl | assumption | omega | (rw [if_pos (by omega)]; first | done | rfl) | (rw [if_neg (by omega)]; first | done | rfl)⟩) (Nat.le_of_ble_eq_true rfl) (Nat.le_of_ble_eq_true rfl) dL_ofTrack_16
  · exact hw.elim

def wq_L_vote_e : List Cond := .codeWith yL_vote cL_vote 5 (some .int) [(0, 10, 13, 24)] :: (([.methodLink RL 57 yX6_vote, .instanceMethod yX6_vote, .selects RX6 yX6_vote yX6_vote, .initialized RX6, .classLink RL 24 "java/lang/IndexOutOfBoundsException"] : List Cond) ++ (wq_X6_vote_e ++ ([] : List Cond)))
theorem gd_L_vote_e : wq_L_vote_e.all goodWord = true := by decide +kernel
theorem h_L_vote_e_0 : GoodIn wq_L_vote_e (wsV RL 57 RX6 yX6_vote wq_X6_vote_e) := goodIn_app (goodIn_r _ [1, 2, 3, 4] (by decide +kernel) (by decide +kernel)) (goodIn_sub (fun w h => List.mem_cons_of_mem _ (List.mem_append_right _ (List.mem_append_left _ h))) gd_X6_vote_e)
set_option maxHeartbeats 4000000 in
set_option maxRecDepth 100000 in
theorem c_L_vote_e (l : Launch) (D : va_G) (kA : Nat → ClassId) (z : Nat) (hfl : l.stackTraces = false) (h0 a o : Nat) (x0 x1 : Int32) (g : Nat → Int64)  : mI l D (tyL kA) z yL_vote wq_L_vote_e ({ frames := 8, cells := 1, slots := 6, locals := 143 }) [.ref h0, .int x0, .int x1, .ref o] [(h0, .inr (7, [.ref a, .int (nI 0), .int (nI 8), .int (nI 0), .int (nI 0), .int (nI 0), .int (nI 0)])), (a, .inl (kA 2, 4, .inr (.inr (.inr (.inr (fun _ => none)))))), (o, .inl (kA 4, 1, .inr (.inl g)))] (fun r w => w = [(h0, .inr (7, [.ref a, .int (nI 0), .int (nI 8), .int (nI 0), .int (nI 0), .int (nI 0), .int (nI 0)])), (a, .inl (kA 2, 4, .inr (.inr (.inr (.inr (fun _ => none)))))), (o, .inl (kA 4, 1, .inr (.inl g)))] ∧ r = nI 1) := by
  refine ofWI (cc := cL_vote) (maxL := 5) RL rfl (by decide +kernel) rfl (Nat.le_of_ble_eq_true rfl) ?_
  intro p e s m args below meth c A ls htab hE
  obtain ⟨hx, hb, hr, hml, hts, hown, hlocks, hA, hS, hP, hK, hD, hG, hl⟩ := hE
  have hl : lv_has ls 5 [(0, .ref h0), (1, .int x0), (2, .int x1), (3, .ref o)] := hl
  have hH : s.heap = s.heap := rfl
  refine lv_aload_n hx hb dL_vote_0 rfl (lv_at hl 3 rfl) ?_
  refine lv_iconst (v := nI 0) hx hb dL_vote_1 (by decide) ?_
  refine lv_aload_n hx hb dL_vote_2 rfl (lv_at hl 0 rfl) ?_
  refine lv_iload_n hx hb dL_vote_3 rfl (lv_at hl 1 rfl) ?_
  refine lv_iload_n hx hb dL_vote_4 rfl (lv_at hl 2 rfl) ?_
  have hF := va_free (wc := [(h0, .inr (7, [.ref a, .int (nI 0), .int (nI 8), .int (nI 0), .int (nI 0), .int (nI 0), .int (nI 0)])), (a, .inl (kA 2, 4, .inr (.inr (.inr (.inr (fun _ => none))))))]) hD hS hA [0, 1] rfl
  refine vx_calli (vx_runV (As := [.int x0, .int x1]) (rest := [.int (nI 0), .ref o]) ⟨hx, hb, hml, hown, hts⟩ (c_X6_vote_e l D kA z hfl h0 a x0 x1  _) (cwV 2 hts h_L_vote_e_0 rfl rfl rfl (by decide +kernel) ⟨Nat.le_of_ble_eq_true rfl, Nat.le_of_ble_eq_true rfl⟩) (fPv hK hP hD hS hG hF [0, 1] (by decide) rfl 0 7 rfl rfl rfl) rfl rfl hl.1 rfl (lv_room (Nat.le_of_ble_eq_true rfl)) dL_vote_5 ⟨Nat.le_of_ble_eq_true rfl, Nat.le_of_ble_eq_true rfl⟩) hS (fun q _ h => hF q h) hF (fun q _ h => hF q h) (fun E ce q9 u9 t H locs ht hvm hw hB hz1 hk1 hS hc9 hv9 hcl9 => ?_) (fun r_1 w1 t H locs ht hvm hw hB hz1 hk1 hS => ?_)
  ·
    obtain ⟨E9, w1⟩ := u9
    obtain ⟨e9, hB⟩ := hB
    have e9 : E9 = E := e9
    subst e9
    obtain ⟨hP, hD⟩ := fJ (wr := [(o, .inl (kA 4, 1, .inr (.inl g)))]) hP hD [0, 1] [2] rfl rfl (by decide) (by decide) hk1 hF ht hB
    obtain ⟨hE9, rfl⟩ := hw
    try dsimp only at hE9
    have hP : va_P D vwCl [(o, .inl (kA 4, 1, .inr (.inl g))), (h0, .inr (7, [.ref a, .int (nI 0), .int (nI 8), .int (nI 0), .int (nI 0), .int (nI 0), .int (nI 0)])), (a, .inl (kA 2, 4, .inr (.inr (.inr (.inr (fun _ => none))))))] H := hP
    have hD : va_D A [(o, .inl (kA 4, 1, .inr (.inl g))), (h0, .inr (7, [.ref a, .int (nI 0), .int (nI 8), .int (nI 0), .int (nI 0), .int (nI 0), .int (nI 0)])), (a, .inl (kA 2, 4, .inr (.inr (.inr (.inr (fun _ => none))))))] := hD
    subst hE9
    refine vx_catch (name := "java/lang/IndexOutOfBoundsException") hown [] ⟨0, 10, 13, 24⟩ [] (htab.trans rfl) (fun _ h => absurd h List.not_mem_nil) (by decide) (by decide) (wAt hts 5 (w := .classLink RL 24 "java/lang/IndexOutOfBoundsException") rfl) (va_Nw.use rfl (hG.2.2.2.1.2.2.2.1 _ (List.mem_of_getElem? (i := 21) rfl))) hc9 hv9 hcl9 ?_
    refine lv_astore (lv' := [(4, .ref q9), (0, .ref h0), (1, .int x0), (2, .int x1), (3, .ref o)]) hx hb dL_vote_13 hl (by decide) rfl (fun ls hl => ?_)
    refine lv_iconst (v := nI 1) hx hb dL_vote_15 (by decide) ?_
    have hP := hP.sub (ws' := [(h0, .inr (7, [.ref a, .int (nI 0), .int (nI 8), .int (nI 0), .int (nI 0), .int (nI 0), .int (nI 0)])), (a, .inl (kA 2, 4, .inr (.inr (.inr (.inr (fun _ => none)))))), (o, .inl (kA 4, 1, .inr (.inl g)))]) [1, 2, 0] rfl
    have hD := hD.sub (ws' := [(h0, .inr (7, [.ref a, .int (nI 0), .int (nI 8), .int (nI 0), .int (nI 0), .int (nI 0), .int (nI 0)])), (a, .inl (kA 2, 4, .inr (.inr (.inr (.inr (fun _ => none)))))), (o, .inl (kA 4, 1, .inr (.inl g)))]) [1, 2, 0] (by decide) rfl
    exact endI hx hb hr hlocks hK hP hD hS (⟨rfl, by first | rfl | assumption | omega | (rw [if_pos (by omega)]; first | done | rfl) | (rw [if_neg (by omega)]; first | done | rfl)⟩) (Nat.le_of_ble_eq_true rfl) (Nat.le_of_ble_eq_true rfl) dL_vote_16
  · exact hw.elim

def wq_L_turn_e : List Cond := .codeWith yL_turn cL_turn 6 (some .int) [(0, 12, 15, 24)] :: (([.methodLink RL 60 yX6_turn, .instanceMethod yX6_turn, .selects RX6 yX6_turn yX6_turn, .initialized RX6, .classLink RL 24 "java/lang/IndexOutOfBoundsException"] : List Cond) ++ (wq_X6_turn_e ++ ([] : List Cond)))
theorem gd_L_turn_e : wq_L_turn_e.all goodWord = true := by decide +kernel
theorem h_L_turn_e_0 : GoodIn wq_L_turn_e (wsV RL 60 RX6 yX6_turn wq_X6_turn_e) := goodIn_app (goodIn_r _ [1, 2, 3, 4] (by decide +kernel) (by decide +kernel)) (goodIn_sub (fun w h => List.mem_cons_of_mem _ (List.mem_append_right _ (List.mem_append_left _ h))) gd_X6_turn_e)
set_option maxHeartbeats 4000000 in
set_option maxRecDepth 100000 in
theorem c_L_turn_e (l : Launch) (D : va_G) (kA : Nat → ClassId) (z : Nat) (hfl : l.stackTraces = false) (h0 a o : Nat) (x0 x1 x2 : Int32) (g : Nat → Int64)  : mI l D (tyL kA) z yL_turn wq_L_turn_e ({ frames := 9, cells := 1, slots := 6, locals := 174 }) [.ref h0, .int x0, .int x1, .int x2, .ref o] [(h0, .inr (7, [.ref a, .int (nI 0), .int (nI 8), .int (nI 0), .int (nI 0), .int (nI 0), .int (nI 0)])), (a, .inl (kA 2, 4, .inr (.inr (.inr (.inr (fun _ => none)))))), (o, .inl (kA 4, 1, .inr (.inl g)))] (fun r w => w = [(h0, .inr (7, [.ref a, .int (nI 0), .int (nI 8), .int (nI 0), .int (nI 0), .int (nI 0), .int (nI 0)])), (a, .inl (kA 2, 4, .inr (.inr (.inr (.inr (fun _ => none)))))), (o, .inl (kA 4, 1, .inr (.inl g)))] ∧ r = nI 1) := by
  refine ofWI (cc := cL_turn) (maxL := 6) RL rfl (by decide +kernel) rfl (Nat.le_of_ble_eq_true rfl) ?_
  intro p e s m args below meth c A ls htab hE
  obtain ⟨hx, hb, hr, hml, hts, hown, hlocks, hA, hS, hP, hK, hD, hG, hl⟩ := hE
  have hl : lv_has ls 6 [(0, .ref h0), (1, .int x0), (2, .int x1), (3, .int x2), (4, .ref o)] := hl
  have hH : s.heap = s.heap := rfl
  refine lv_aload hx hb dL_turn_0 (lv_at hl 4 rfl) ?_
  refine lv_iconst (v := nI 0) hx hb dL_turn_2 (by decide) ?_
  refine lv_aload_n hx hb dL_turn_3 rfl (lv_at hl 0 rfl) ?_
  refine lv_iload_n hx hb dL_turn_4 rfl (lv_at hl 1 rfl) ?_
  refine lv_iload_n hx hb dL_turn_5 rfl (lv_at hl 2 rfl) ?_
  refine lv_iload_n hx hb dL_turn_6 rfl (lv_at hl 3 rfl) ?_
  have hF := va_free (wc := [(h0, .inr (7, [.ref a, .int (nI 0), .int (nI 8), .int (nI 0), .int (nI 0), .int (nI 0), .int (nI 0)])), (a, .inl (kA 2, 4, .inr (.inr (.inr (.inr (fun _ => none))))))]) hD hS hA [0, 1] rfl
  refine vx_calli (vx_runV (As := [.int x0, .int x1, .int x2]) (rest := [.int (nI 0), .ref o]) ⟨hx, hb, hml, hown, hts⟩ (c_X6_turn_e l D kA z hfl h0 a x0 x1 x2  _) (cwV 3 hts h_L_turn_e_0 rfl rfl rfl (by decide +kernel) ⟨Nat.le_of_ble_eq_true rfl, Nat.le_of_ble_eq_true rfl⟩) (fPv hK hP hD hS hG hF [0, 1] (by decide) rfl 0 7 rfl rfl rfl) rfl rfl hl.1 rfl (lv_room (Nat.le_of_ble_eq_true rfl)) dL_turn_7 ⟨Nat.le_of_ble_eq_true rfl, Nat.le_of_ble_eq_true rfl⟩) hS (fun q _ h => hF q h) hF (fun q _ h => hF q h) (fun E ce q9 u9 t H locs ht hvm hw hB hz1 hk1 hS hc9 hv9 hcl9 => ?_) (fun r_1 w1 t H locs ht hvm hw hB hz1 hk1 hS => ?_)
  ·
    obtain ⟨E9, w1⟩ := u9
    obtain ⟨e9, hB⟩ := hB
    have e9 : E9 = E := e9
    subst e9
    obtain ⟨hP, hD⟩ := fJ (wr := [(o, .inl (kA 4, 1, .inr (.inl g)))]) hP hD [0, 1] [2] rfl rfl (by decide) (by decide) hk1 hF ht hB
    obtain ⟨hE9, rfl⟩ := hw
    try dsimp only at hE9
    have hP : va_P D vwCl [(o, .inl (kA 4, 1, .inr (.inl g))), (h0, .inr (7, [.ref a, .int (nI 0), .int (nI 8), .int (nI 0), .int (nI 0), .int (nI 0), .int (nI 0)])), (a, .inl (kA 2, 4, .inr (.inr (.inr (.inr (fun _ => none))))))] H := hP
    have hD : va_D A [(o, .inl (kA 4, 1, .inr (.inl g))), (h0, .inr (7, [.ref a, .int (nI 0), .int (nI 8), .int (nI 0), .int (nI 0), .int (nI 0), .int (nI 0)])), (a, .inl (kA 2, 4, .inr (.inr (.inr (.inr (fun _ => none))))))] := hD
    subst hE9
    refine vx_catch (name := "java/lang/IndexOutOfBoundsException") hown [] ⟨0, 12, 15, 24⟩ [] (htab.trans rfl) (fun _ h => absurd h List.not_mem_nil) (by decide) (by decide) (wAt hts 5 (w := .classLink RL 24 "java/lang/IndexOutOfBoundsException") rfl) (va_Nw.use rfl (hG.2.2.2.1.2.2.2.1 _ (List.mem_of_getElem? (i := 21) rfl))) hc9 hv9 hcl9 ?_
    refine lv_astore (lv' := [(5, .ref q9), (0, .ref h0), (1, .int x0), (2, .int x1), (3, .int x2), (4, .ref o)]) hx hb dL_turn_15 hl (by decide) rfl (fun ls hl => ?_)
    refine lv_iconst (v := nI 1) hx hb dL_turn_17 (by decide) ?_
    have hP := hP.sub (ws' := [(h0, .inr (7, [.ref a, .int (nI 0), .int (nI 8), .int (nI 0), .int (nI 0), .int (nI 0), .int (nI 0)])), (a, .inl (kA 2, 4, .inr (.inr (.inr (.inr (fun _ => none)))))), (o, .inl (kA 4, 1, .inr (.inl g)))]) [1, 2, 0] rfl
    have hD := hD.sub (ws' := [(h0, .inr (7, [.ref a, .int (nI 0), .int (nI 8), .int (nI 0), .int (nI 0), .int (nI 0), .int (nI 0)])), (a, .inl (kA 2, 4, .inr (.inr (.inr (.inr (fun _ => none)))))), (o, .inl (kA 4, 1, .inr (.inl g)))]) [1, 2, 0] (by decide) rfl
    exact endI hx hb hr hlocks hK hP hD hS (⟨rfl, by first | rfl | assumption | omega | (rw [if_pos (by omega)]; first | done | rfl) | (rw [if_neg (by omega)]; first | done | rfl)⟩) (Nat.le_of_ble_eq_true rfl) (Nat.le_of_ble_eq_true rfl) dL_turn_18
  · exact hw.elim

def wq_L_period_e : List Cond := .codeWith yL_period cL_period 5 (some .int) [(0, 9, 12, 24)] :: (([.methodLink RL 63 yX6_period, .instanceMethod yX6_period, .selects RX6 yX6_period yX6_period, .initialized RX6, .classLink RL 24 "java/lang/IndexOutOfBoundsException"] : List Cond) ++ (wq_X6_period_e ++ ([] : List Cond)))
theorem gd_L_period_e : wq_L_period_e.all goodWord = true := by decide +kernel
theorem h_L_period_e_0 : GoodIn wq_L_period_e (wsV RL 63 RX6 yX6_period wq_X6_period_e) := goodIn_app (goodIn_r _ [1, 2, 3, 4] (by decide +kernel) (by decide +kernel)) (goodIn_sub (fun w h => List.mem_cons_of_mem _ (List.mem_append_right _ (List.mem_append_left _ h))) gd_X6_period_e)
set_option maxHeartbeats 4000000 in
set_option maxRecDepth 100000 in
theorem c_L_period_e (l : Launch) (D : va_G) (kA : Nat → ClassId) (z : Nat) (hfl : l.stackTraces = false) (h0 a o : Nat) (x0 x1 : Int32) (g : Nat → UInt64)  : mI l D (tyL kA) z yL_period wq_L_period_e ({ frames := 9, cells := 1, slots := 6, locals := 172 }) [.ref h0, .int x0, .int x1, .ref o] [(h0, .inr (7, [.ref a, .int (nI 0), .int (nI 8), .int (nI 0), .int (nI 0), .int (nI 0), .int (nI 0)])), (a, .inl (kA 2, 4, .inr (.inr (.inr (.inr (fun _ => none)))))), (o, .inl (kA 5, 1, .inr (.inr (.inr (.inl g)))))] (fun r w => w = [(h0, .inr (7, [.ref a, .int (nI 0), .int (nI 8), .int (nI 0), .int (nI 0), .int (nI 0), .int (nI 0)])), (a, .inl (kA 2, 4, .inr (.inr (.inr (.inr (fun _ => none)))))), (o, .inl (kA 5, 1, .inr (.inr (.inr (.inl g)))))] ∧ r = nI 1) := by
  refine ofWI (cc := cL_period) (maxL := 5) RL rfl (by decide +kernel) rfl (Nat.le_of_ble_eq_true rfl) ?_
  intro p e s m args below meth c A ls htab hE
  obtain ⟨hx, hb, hr, hml, hts, hown, hlocks, hA, hS, hP, hK, hD, hG, hl⟩ := hE
  have hl : lv_has ls 5 [(0, .ref h0), (1, .int x0), (2, .int x1), (3, .ref o)] := hl
  have hH : s.heap = s.heap := rfl
  refine lv_aload_n hx hb dL_period_0 rfl (lv_at hl 3 rfl) ?_
  refine lv_iconst (v := nI 0) hx hb dL_period_1 (by decide) ?_
  refine lv_aload_n hx hb dL_period_2 rfl (lv_at hl 0 rfl) ?_
  refine lv_iload_n hx hb dL_period_3 rfl (lv_at hl 1 rfl) ?_
  refine lv_iload_n hx hb dL_period_4 rfl (lv_at hl 2 rfl) ?_
  have hF := va_free (wc := [(h0, .inr (7, [.ref a, .int (nI 0), .int (nI 8), .int (nI 0), .int (nI 0), .int (nI 0), .int (nI 0)])), (a, .inl (kA 2, 4, .inr (.inr (.inr (.inr (fun _ => none))))))]) hD hS hA [0, 1] rfl
  refine vx_calld (vx_runV (As := [.int x0, .int x1]) (rest := [.int (nI 0), .ref o]) ⟨hx, hb, hml, hown, hts⟩ (c_X6_period_e l D kA z hfl h0 a x0 x1  _) (cwV 2 hts h_L_period_e_0 rfl rfl rfl (by decide +kernel) ⟨Nat.le_of_ble_eq_true rfl, Nat.le_of_ble_eq_true rfl⟩) (fPv hK hP hD hS hG hF [0, 1] (by decide) rfl 0 7 rfl rfl rfl) rfl rfl hl.1 rfl (lv_room (Nat.le_of_ble_eq_true rfl)) dL_period_5 ⟨Nat.le_of_ble_eq_true rfl, Nat.le_of_ble_eq_true rfl⟩) hS (fun q _ h => hF q h) hF (fun q _ h => hF q h) (fun E ce q9 u9 t H locs ht hvm hw hB hz1 hk1 hS hc9 hv9 hcl9 => ?_) (fun r_1 w1 t H locs ht hvm hw hB hz1 hk1 hS => ?_)
  ·
    obtain ⟨E9, w1⟩ := u9
    obtain ⟨e9, hB⟩ := hB
    have e9 : E9 = E := e9
    subst e9
    obtain ⟨hP, hD⟩ := fJ (wr := [(o, .inl (kA 5, 1, .inr (.inr (.inr (.inl g)))))]) hP hD [0, 1] [2] rfl rfl (by decide) (by decide) hk1 hF ht hB
    obtain ⟨hE9, rfl⟩ := hw
    try dsimp only at hE9
    have hP : va_P D vwCl [(o, .inl (kA 5, 1, .inr (.inr (.inr (.inl g))))), (h0, .inr (7, [.ref a, .int (nI 0), .int (nI 8), .int (nI 0), .int (nI 0), .int (nI 0), .int (nI 0)])), (a, .inl (kA 2, 4, .inr (.inr (.inr (.inr (fun _ => none))))))] H := hP
    have hD : va_D A [(o, .inl (kA 5, 1, .inr (.inr (.inr (.inl g))))), (h0, .inr (7, [.ref a, .int (nI 0), .int (nI 8), .int (nI 0), .int (nI 0), .int (nI 0), .int (nI 0)])), (a, .inl (kA 2, 4, .inr (.inr (.inr (.inr (fun _ => none))))))] := hD
    subst hE9
    refine vx_catch (name := "java/lang/IndexOutOfBoundsException") hown [] ⟨0, 9, 12, 24⟩ [] (htab.trans rfl) (fun _ h => absurd h List.not_mem_nil) (by decide) (by decide) (wAt hts 5 (w := .classLink RL 24 "java/lang/IndexOutOfBoundsException") rfl) (va_Nw.use rfl (hG.2.2.2.1.2.2.2.1 _ (List.mem_of_getElem? (i := 21) rfl))) hc9 hv9 hcl9 ?_
    refine lv_astore (lv' := [(4, .ref q9), (0, .ref h0), (1, .int x0), (2, .int x1), (3, .ref o)]) hx hb dL_period_12 hl (by decide) rfl (fun ls hl => ?_)
    refine lv_iconst (v := nI 1) hx hb dL_period_14 (by decide) ?_
    have hP := hP.sub (ws' := [(h0, .inr (7, [.ref a, .int (nI 0), .int (nI 8), .int (nI 0), .int (nI 0), .int (nI 0), .int (nI 0)])), (a, .inl (kA 2, 4, .inr (.inr (.inr (.inr (fun _ => none)))))), (o, .inl (kA 5, 1, .inr (.inr (.inr (.inl g)))))]) [1, 2, 0] rfl
    have hD := hD.sub (ws' := [(h0, .inr (7, [.ref a, .int (nI 0), .int (nI 8), .int (nI 0), .int (nI 0), .int (nI 0), .int (nI 0)])), (a, .inl (kA 2, 4, .inr (.inr (.inr (.inr (fun _ => none)))))), (o, .inl (kA 5, 1, .inr (.inr (.inr (.inl g)))))]) [1, 2, 0] (by decide) rfl
    exact endI hx hb hr hlocks hK hP hD hS (⟨rfl, by first | rfl | assumption | omega | (rw [if_pos (by omega)]; first | done | rfl) | (rw [if_neg (by omega)]; first | done | rfl)⟩) (Nat.le_of_ble_eq_true rfl) (Nat.le_of_ble_eq_true rfl) dL_period_15
  · exact hw.elim

def wq_L_ofSector_e : List Cond := .codeWith yL_ofSector cL_ofSector 6 (some .int) [(0, 12, 15, 24), (0, 12, 19, 13)] :: (([.methodLink RL 67 yX6_ofSector, .instanceMethod yX6_ofSector, .selects RX6 yX6_ofSector yX6_ofSector, .initialized RX6, .classLink RL 24 "java/lang/IndexOutOfBoundsException"] : List Cond) ++ (wq_X6_ofSector_e ++ ([] : List Cond)))
theorem gd_L_ofSector_e : wq_L_ofSector_e.all goodWord = true := by decide +kernel
theorem h_L_ofSector_e_0 : GoodIn wq_L_ofSector_e (wsV RL 67 RX6 yX6_ofSector wq_X6_ofSector_e) := goodIn_app (goodIn_r _ [1, 2, 3, 4] (by decide +kernel) (by decide +kernel)) (goodIn_sub (fun w h => List.mem_cons_of_mem _ (List.mem_append_right _ (List.mem_append_left _ h))) gd_X6_ofSector_e)
set_option maxHeartbeats 4000000 in
set_option maxRecDepth 100000 in
theorem c_L_ofSector_e (l : Launch) (D : va_G) (kA : Nat → ClassId) (z : Nat) (hfl : l.stackTraces = false) (h0 a o : Nat) (x0 x1 x2 : Int32) (g : Nat → Int64)  : mI l D (tyL kA) z yL_ofSector wq_L_ofSector_e ({ frames := 8, cells := 1, slots := 6, locals := 144 }) [.ref h0, .int x0, .int x1, .int x2, .ref o] [(h0, .inr (7, [.ref a, .int (nI 0), .int (nI 8), .int (nI 0), .int (nI 0), .int (nI 0), .int (nI 0)])), (a, .inl (kA 2, 4, .inr (.inr (.inr (.inr (fun _ => none)))))), (o, .inl (kA 4, 1, .inr (.inl g)))] (fun r w => w = [(h0, .inr (7, [.ref a, .int (nI 0), .int (nI 8), .int (nI 0), .int (nI 0), .int (nI 0), .int (nI 0)])), (a, .inl (kA 2, 4, .inr (.inr (.inr (.inr (fun _ => none)))))), (o, .inl (kA 4, 1, .inr (.inl g)))] ∧ r = nI 1) := by
  refine ofWI (cc := cL_ofSector) (maxL := 6) RL rfl (by decide +kernel) rfl (Nat.le_of_ble_eq_true rfl) ?_
  intro p e s m args below meth c A ls htab hE
  obtain ⟨hx, hb, hr, hml, hts, hown, hlocks, hA, hS, hP, hK, hD, hG, hl⟩ := hE
  have hl : lv_has ls 6 [(0, .ref h0), (1, .int x0), (2, .int x1), (3, .int x2), (4, .ref o)] := hl
  have hH : s.heap = s.heap := rfl
  refine lv_aload hx hb dL_ofSector_0 (lv_at hl 4 rfl) ?_
  refine lv_iconst (v := nI 0) hx hb dL_ofSector_2 (by decide) ?_
  refine lv_aload_n hx hb dL_ofSector_3 rfl (lv_at hl 0 rfl) ?_
  refine lv_iload_n hx hb dL_ofSector_4 rfl (lv_at hl 1 rfl) ?_
  refine lv_iload_n hx hb dL_ofSector_5 rfl (lv_at hl 2 rfl) ?_
  refine lv_iload_n hx hb dL_ofSector_6 rfl (lv_at hl 3 rfl) ?_
  have hF := va_free (wc := [(h0, .inr (7, [.ref a, .int (nI 0), .int (nI 8), .int (nI 0), .int (nI 0), .int (nI 0), .int (nI 0)])), (a, .inl (kA 2, 4, .inr (.inr (.inr (.inr (fun _ => none))))))]) hD hS hA [0, 1] rfl
  refine vx_calli (vx_runV (As := [.int x0, .int x1, .int x2]) (rest := [.int (nI 0), .ref o]) ⟨hx, hb, hml, hown, hts⟩ (c_X6_ofSector_e l D kA z hfl h0 a x0 x1 x2  _) (cwV 3 hts h_L_ofSector_e_0 rfl rfl rfl (by decide +kernel) ⟨Nat.le_of_ble_eq_true rfl, Nat.le_of_ble_eq_true rfl⟩) (fPv hK hP hD hS hG hF [0, 1] (by decide) rfl 0 7 rfl rfl rfl) rfl rfl hl.1 rfl (lv_room (Nat.le_of_ble_eq_true rfl)) dL_ofSector_7 ⟨Nat.le_of_ble_eq_true rfl, Nat.le_of_ble_eq_true rfl⟩) hS (fun q _ h => hF q h) hF (fun q _ h => hF q h) (fun E ce q9 u9 t H locs ht hvm hw hB hz1 hk1 hS hc9 hv9 hcl9 => ?_) (fun r_1 w1 t H locs ht hvm hw hB hz1 hk1 hS => ?_)
  ·
    obtain ⟨E9, w1⟩ := u9
    obtain ⟨e9, hB⟩ := hB
    have e9 : E9 = E := e9
    subst e9
    obtain ⟨hP, hD⟩ := fJ (wr := [(o, .inl (kA 4, 1, .inr (.inl g)))]) hP hD [0, 1] [2] rfl rfl (by decide) (by decide) hk1 hF ht hB
    obtain ⟨hE9, rfl⟩ := hw
    try dsimp only at hE9
    have hP : va_P D vwCl [(o, .inl (kA 4, 1, .inr (.inl g))), (h0, .inr (7, [.ref a, .int (nI 0), .int (nI 8), .int (nI 0), .int (nI 0), .int (nI 0), .int (nI 0)])), (a, .inl (kA 2, 4, .inr (.inr (.inr (.inr (fun _ => none))))))] H := hP
    have hD : va_D A [(o, .inl (kA 4, 1, .inr (.inl g))), (h0, .inr (7, [.ref a, .int (nI 0), .int (nI 8), .int (nI 0), .int (nI 0), .int (nI 0), .int (nI 0)])), (a, .inl (kA 2, 4, .inr (.inr (.inr (.inr (fun _ => none))))))] := hD
    subst hE9
    refine vx_catch (name := "java/lang/IndexOutOfBoundsException") hown [] ⟨0, 12, 15, 24⟩ [⟨0, 12, 19, 13⟩] (htab.trans rfl) (fun _ h => absurd h List.not_mem_nil) (by decide) (by decide) (wAt hts 5 (w := .classLink RL 24 "java/lang/IndexOutOfBoundsException") rfl) (va_Nw.use rfl (hG.2.2.2.1.2.2.2.1 _ (List.mem_of_getElem? (i := 21) rfl))) hc9 hv9 hcl9 ?_
    refine lv_astore (lv' := [(5, .ref q9), (0, .ref h0), (1, .int x0), (2, .int x1), (3, .int x2), (4, .ref o)]) hx hb dL_ofSector_15 hl (by decide) rfl (fun ls hl => ?_)
    refine lv_iconst (v := nI 1) hx hb dL_ofSector_17 (by decide) ?_
    have hP := hP.sub (ws' := [(h0, .inr (7, [.ref a, .int (nI 0), .int (nI 8), .int (nI 0), .int (nI 0), .int (nI 0), .int (nI 0)])), (a, .inl (kA 2, 4, .inr (.inr (.inr (.inr (fun _ => none)))))), (o, .inl (kA 4, 1, .inr (.inl g)))]) [1, 2, 0] rfl
    have hD := hD.sub (ws' := [(h0, .inr (7, [.ref a, .int (nI 0), .int (nI 8), .int (nI 0), .int (nI 0), .int (nI 0), .int (nI 0)])), (a, .inl (kA 2, 4, .inr (.inr (.inr (.inr (fun _ => none)))))), (o, .inl (kA 4, 1, .inr (.inl g)))]) [1, 2, 0] (by decide) rfl
    exact endI hx hb hr hlocks hK hP hD hS (⟨rfl, by first | rfl | assumption | omega | (rw [if_pos (by omega)]; first | done | rfl) | (rw [if_neg (by omega)]; first | done | rfl)⟩) (Nat.le_of_ble_eq_true rfl) (Nat.le_of_ble_eq_true rfl) dL_ofSector_18
  · exact hw.elim

def wq_L_chain_e : List Cond := .codeWith yL_chain cL_chain 5 (some .int) [(0, 10, 13, 24), (0, 10, 17, 13)] :: (([.methodLink RL 70 yX6_chain, .instanceMethod yX6_chain, .selects RX6 yX6_chain yX6_chain, .initialized RX6, .classLink RL 24 "java/lang/IndexOutOfBoundsException"] : List Cond) ++ (wq_X6_chain_e ++ ([] : List Cond)))
theorem gd_L_chain_e : wq_L_chain_e.all goodWord = true := by decide +kernel
theorem h_L_chain_e_0 : GoodIn wq_L_chain_e (wsV RL 70 RX6 yX6_chain wq_X6_chain_e) := goodIn_app (goodIn_r _ [1, 2, 3, 4] (by decide +kernel) (by decide +kernel)) (goodIn_sub (fun w h => List.mem_cons_of_mem _ (List.mem_append_right _ (List.mem_append_left _ h))) gd_X6_chain_e)
set_option maxHeartbeats 4000000 in
set_option maxRecDepth 100000 in
theorem c_L_chain_e (l : Launch) (D : va_G) (kA : Nat → ClassId) (z : Nat) (hfl : l.stackTraces = false) (h0 a o : Nat) (x0 x1 : Int32) (g : Nat → Int64)  : mI l D (tyL kA) z yL_chain wq_L_chain_e ({ frames := 8, cells := 1, slots := 6, locals := 143 }) [.ref h0, .int x0, .int x1, .ref o] [(h0, .inr (7, [.ref a, .int (nI 0), .int (nI 8), .int (nI 0), .int (nI 0), .int (nI 0), .int (nI 0)])), (a, .inl (kA 2, 4, .inr (.inr (.inr (.inr (fun _ => none)))))), (o, .inl (kA 4, 1, .inr (.inl g)))] (fun r w => w = [(h0, .inr (7, [.ref a, .int (nI 0), .int (nI 8), .int (nI 0), .int (nI 0), .int (nI 0), .int (nI 0)])), (a, .inl (kA 2, 4, .inr (.inr (.inr (.inr (fun _ => none)))))), (o, .inl (kA 4, 1, .inr (.inl g)))] ∧ r = nI 1) := by
  refine ofWI (cc := cL_chain) (maxL := 5) RL rfl (by decide +kernel) rfl (Nat.le_of_ble_eq_true rfl) ?_
  intro p e s m args below meth c A ls htab hE
  obtain ⟨hx, hb, hr, hml, hts, hown, hlocks, hA, hS, hP, hK, hD, hG, hl⟩ := hE
  have hl : lv_has ls 5 [(0, .ref h0), (1, .int x0), (2, .int x1), (3, .ref o)] := hl
  have hH : s.heap = s.heap := rfl
  refine lv_aload_n hx hb dL_chain_0 rfl (lv_at hl 3 rfl) ?_
  refine lv_iconst (v := nI 0) hx hb dL_chain_1 (by decide) ?_
  refine lv_aload_n hx hb dL_chain_2 rfl (lv_at hl 0 rfl) ?_
  refine lv_iload_n hx hb dL_chain_3 rfl (lv_at hl 1 rfl) ?_
  refine lv_iload_n hx hb dL_chain_4 rfl (lv_at hl 2 rfl) ?_
  have hF := va_free (wc := [(h0, .inr (7, [.ref a, .int (nI 0), .int (nI 8), .int (nI 0), .int (nI 0), .int (nI 0), .int (nI 0)])), (a, .inl (kA 2, 4, .inr (.inr (.inr (.inr (fun _ => none))))))]) hD hS hA [0, 1] rfl
  refine vx_calli (vx_runV (As := [.int x0, .int x1]) (rest := [.int (nI 0), .ref o]) ⟨hx, hb, hml, hown, hts⟩ (c_X6_chain_e l D kA z hfl h0 a x0 x1  _) (cwV 2 hts h_L_chain_e_0 rfl rfl rfl (by decide +kernel) ⟨Nat.le_of_ble_eq_true rfl, Nat.le_of_ble_eq_true rfl⟩) (fPv hK hP hD hS hG hF [0, 1] (by decide) rfl 0 7 rfl rfl rfl) rfl rfl hl.1 rfl (lv_room (Nat.le_of_ble_eq_true rfl)) dL_chain_5 ⟨Nat.le_of_ble_eq_true rfl, Nat.le_of_ble_eq_true rfl⟩) hS (fun q _ h => hF q h) hF (fun q _ h => hF q h) (fun E ce q9 u9 t H locs ht hvm hw hB hz1 hk1 hS hc9 hv9 hcl9 => ?_) (fun r_1 w1 t H locs ht hvm hw hB hz1 hk1 hS => ?_)
  ·
    obtain ⟨E9, w1⟩ := u9
    obtain ⟨e9, hB⟩ := hB
    have e9 : E9 = E := e9
    subst e9
    obtain ⟨hP, hD⟩ := fJ (wr := [(o, .inl (kA 4, 1, .inr (.inl g)))]) hP hD [0, 1] [2] rfl rfl (by decide) (by decide) hk1 hF ht hB
    obtain ⟨hE9, rfl⟩ := hw
    try dsimp only at hE9
    have hP : va_P D vwCl [(o, .inl (kA 4, 1, .inr (.inl g))), (h0, .inr (7, [.ref a, .int (nI 0), .int (nI 8), .int (nI 0), .int (nI 0), .int (nI 0), .int (nI 0)])), (a, .inl (kA 2, 4, .inr (.inr (.inr (.inr (fun _ => none))))))] H := hP
    have hD : va_D A [(o, .inl (kA 4, 1, .inr (.inl g))), (h0, .inr (7, [.ref a, .int (nI 0), .int (nI 8), .int (nI 0), .int (nI 0), .int (nI 0), .int (nI 0)])), (a, .inl (kA 2, 4, .inr (.inr (.inr (.inr (fun _ => none))))))] := hD
    subst hE9
    refine vx_catch (name := "java/lang/IndexOutOfBoundsException") hown [] ⟨0, 10, 13, 24⟩ [⟨0, 10, 17, 13⟩] (htab.trans rfl) (fun _ h => absurd h List.not_mem_nil) (by decide) (by decide) (wAt hts 5 (w := .classLink RL 24 "java/lang/IndexOutOfBoundsException") rfl) (va_Nw.use rfl (hG.2.2.2.1.2.2.2.1 _ (List.mem_of_getElem? (i := 21) rfl))) hc9 hv9 hcl9 ?_
    refine lv_astore (lv' := [(4, .ref q9), (0, .ref h0), (1, .int x0), (2, .int x1), (3, .ref o)]) hx hb dL_chain_13 hl (by decide) rfl (fun ls hl => ?_)
    refine lv_iconst (v := nI 1) hx hb dL_chain_15 (by decide) ?_
    have hP := hP.sub (ws' := [(h0, .inr (7, [.ref a, .int (nI 0), .int (nI 8), .int (nI 0), .int (nI 0), .int (nI 0), .int (nI 0)])), (a, .inl (kA 2, 4, .inr (.inr (.inr (.inr (fun _ => none)))))), (o, .inl (kA 4, 1, .inr (.inl g)))]) [1, 2, 0] rfl
    have hD := hD.sub (ws' := [(h0, .inr (7, [.ref a, .int (nI 0), .int (nI 8), .int (nI 0), .int (nI 0), .int (nI 0), .int (nI 0)])), (a, .inl (kA 2, 4, .inr (.inr (.inr (.inr (fun _ => none)))))), (o, .inl (kA 4, 1, .inr (.inl g)))]) [1, 2, 0] (by decide) rfl
    exact endI hx hb hr hlocks hK hP hD hS (⟨rfl, by first | rfl | assumption | omega | (rw [if_pos (by omega)]; first | done | rfl) | (rw [if_neg (by omega)]; first | done | rfl)⟩) (Nat.le_of_ble_eq_true rfl) (Nat.le_of_ble_eq_true rfl) dL_chain_16
  · exact hw.elim

def wq_L_sure_e : List Cond := .codeWith yL_sure cL_sure 4 (some .int) [(0, 8, 11, 24)] :: (([.methodLink RL 76 yX6_sure, .instanceMethod yX6_sure, .selects RX6 yX6_sure yX6_sure, .initialized RX6, .classLink RL 24 "java/lang/IndexOutOfBoundsException"] : List Cond) ++ (wq_X6_sure_e ++ ([] : List Cond)))
theorem gd_L_sure_e : wq_L_sure_e.all goodWord = true := by decide +kernel
theorem h_L_sure_e_0 : GoodIn wq_L_sure_e (wsV RL 76 RX6 yX6_sure wq_X6_sure_e) := goodIn_app (goodIn_r _ [1, 2, 3, 4] (by decide +kernel) (by decide +kernel)) (goodIn_sub (fun w h => List.mem_cons_of_mem _ (List.mem_append_right _ (List.mem_append_left _ h))) gd_X6_sure_e)
set_option maxHeartbeats 4000000 in
set_option maxRecDepth 100000 in
theorem c_L_sure_e (l : Launch) (D : va_G) (kA : Nat → ClassId) (z : Nat) (hfl : l.stackTraces = false) (h0 a o : Nat) (x0 : Int32) (g : Nat → UInt64)  : mI l D (tyL kA) z yL_sure wq_L_sure_e ({ frames := 8, cells := 1, slots := 6, locals := 143 }) [.ref h0, .int x0, .ref o] [(h0, .inr (7, [.ref a, .int (nI 0), .int (nI 8), .int (nI 0), .int (nI 0), .int (nI 0), .int (nI 0)])), (a, .inl (kA 2, 4, .inr (.inr (.inr (.inr (fun _ => none)))))), (o, .inl (kA 5, 1, .inr (.inr (.inr (.inl g)))))] (fun r w => w = [(h0, .inr (7, [.ref a, .int (nI 0), .int (nI 8), .int (nI 0), .int (nI 0), .int (nI 0), .int (nI 0)])), (a, .inl (kA 2, 4, .inr (.inr (.inr (.inr (fun _ => none)))))), (o, .inl (kA 5, 1, .inr (.inr (.inr (.inl g)))))] ∧ r = nI 1) := by
  refine ofWI (cc := cL_sure) (maxL := 4) RL rfl (by decide +kernel) rfl (Nat.le_of_ble_eq_true rfl) ?_
  intro p e s m args below meth c A ls htab hE
  obtain ⟨hx, hb, hr, hml, hts, hown, hlocks, hA, hS, hP, hK, hD, hG, hl⟩ := hE
  have hl : lv_has ls 4 [(0, .ref h0), (1, .int x0), (2, .ref o)] := hl
  have hH : s.heap = s.heap := rfl
  refine lv_aload_n hx hb dL_sure_0 rfl (lv_at hl 2 rfl) ?_
  refine lv_iconst (v := nI 0) hx hb dL_sure_1 (by decide) ?_
  refine lv_aload_n hx hb dL_sure_2 rfl (lv_at hl 0 rfl) ?_
  refine lv_iload_n hx hb dL_sure_3 rfl (lv_at hl 1 rfl) ?_
  have hF := va_free (wc := [(h0, .inr (7, [.ref a, .int (nI 0), .int (nI 8), .int (nI 0), .int (nI 0), .int (nI 0), .int (nI 0)])), (a, .inl (kA 2, 4, .inr (.inr (.inr (.inr (fun _ => none))))))]) hD hS hA [0, 1] rfl
  refine vx_calld (vx_runV (As := [.int x0]) (rest := [.int (nI 0), .ref o]) ⟨hx, hb, hml, hown, hts⟩ (c_X6_sure_e l D kA z hfl h0 a x0  _) (cwV 1 hts h_L_sure_e_0 rfl rfl rfl (by decide +kernel) ⟨Nat.le_of_ble_eq_true rfl, Nat.le_of_ble_eq_true rfl⟩) (fPv hK hP hD hS hG hF [0, 1] (by decide) rfl 0 7 rfl rfl rfl) rfl rfl hl.1 rfl (lv_room (Nat.le_of_ble_eq_true rfl)) dL_sure_4 ⟨Nat.le_of_ble_eq_true rfl, Nat.le_of_ble_eq_true rfl⟩) hS (fun q _ h => hF q h) hF (fun q _ h => hF q h) (fun E ce q9 u9 t H locs ht hvm hw hB hz1 hk1 hS hc9 hv9 hcl9 => ?_) (fun r_1 w1 t H locs ht hvm hw hB hz1 hk1 hS => ?_)
  ·
    obtain ⟨E9, w1⟩ := u9
    obtain ⟨e9, hB⟩ := hB
    have e9 : E9 = E := e9
    subst e9
    obtain ⟨hP, hD⟩ := fJ (wr := [(o, .inl (kA 5, 1, .inr (.inr (.inr (.inl g)))))]) hP hD [0, 1] [2] rfl rfl (by decide) (by decide) hk1 hF ht hB
    obtain ⟨hE9, rfl⟩ := hw
    try dsimp only at hE9
    have hP : va_P D vwCl [(o, .inl (kA 5, 1, .inr (.inr (.inr (.inl g))))), (h0, .inr (7, [.ref a, .int (nI 0), .int (nI 8), .int (nI 0), .int (nI 0), .int (nI 0), .int (nI 0)])), (a, .inl (kA 2, 4, .inr (.inr (.inr (.inr (fun _ => none))))))] H := hP
    have hD : va_D A [(o, .inl (kA 5, 1, .inr (.inr (.inr (.inl g))))), (h0, .inr (7, [.ref a, .int (nI 0), .int (nI 8), .int (nI 0), .int (nI 0), .int (nI 0), .int (nI 0)])), (a, .inl (kA 2, 4, .inr (.inr (.inr (.inr (fun _ => none))))))] := hD
    subst hE9
    refine vx_catch (name := "java/lang/IndexOutOfBoundsException") hown [] ⟨0, 8, 11, 24⟩ [] (htab.trans rfl) (fun _ h => absurd h List.not_mem_nil) (by decide) (by decide) (wAt hts 5 (w := .classLink RL 24 "java/lang/IndexOutOfBoundsException") rfl) (va_Nw.use rfl (hG.2.2.2.1.2.2.2.1 _ (List.mem_of_getElem? (i := 21) rfl))) hc9 hv9 hcl9 ?_
    refine lv_astore_n (lv' := [(3, .ref q9), (0, .ref h0), (1, .int x0), (2, .ref o)]) hx hb dL_sure_11 rfl hl (by decide) rfl (fun ls hl => ?_)
    refine lv_iconst (v := nI 1) hx hb dL_sure_12 (by decide) ?_
    have hP := hP.sub (ws' := [(h0, .inr (7, [.ref a, .int (nI 0), .int (nI 8), .int (nI 0), .int (nI 0), .int (nI 0), .int (nI 0)])), (a, .inl (kA 2, 4, .inr (.inr (.inr (.inr (fun _ => none)))))), (o, .inl (kA 5, 1, .inr (.inr (.inr (.inl g)))))]) [1, 2, 0] rfl
    have hD := hD.sub (ws' := [(h0, .inr (7, [.ref a, .int (nI 0), .int (nI 8), .int (nI 0), .int (nI 0), .int (nI 0), .int (nI 0)])), (a, .inl (kA 2, 4, .inr (.inr (.inr (.inr (fun _ => none)))))), (o, .inl (kA 5, 1, .inr (.inr (.inr (.inl g)))))]) [1, 2, 0] (by decide) rfl
    exact endI hx hb hr hlocks hK hP hD hS (⟨rfl, by first | rfl | assumption | omega | (rw [if_pos (by omega)]; first | done | rfl) | (rw [if_neg (by omega)]; first | done | rfl)⟩) (Nat.le_of_ble_eq_true rfl) (Nat.le_of_ble_eq_true rfl) dL_sure_13
  · exact hw.elim

def wq_L_plainLong_e : List Cond := .codeWith yL_plainLong cL_plainLong 4 (some .int) [(0, 9, 12, 24)] :: (([.methodLink RL 80 yX6_plainLong, .instanceMethod yX6_plainLong, .selects RX6 yX6_plainLong yX6_plainLong, .initialized RX6, .classLink RL 24 "java/lang/IndexOutOfBoundsException"] : List Cond) ++ (wq_X6_plainLong_e ++ ([] : List Cond)))
theorem gd_L_plainLong_e : wq_L_plainLong_e.all goodWord = true := by decide +kernel
theorem h_L_plainLong_e_0 : GoodIn wq_L_plainLong_e (wsV RL 80 RX6 yX6_plainLong wq_X6_plainLong_e) := goodIn_app (goodIn_r _ [1, 2, 3, 4] (by decide +kernel) (by decide +kernel)) (goodIn_sub (fun w h => List.mem_cons_of_mem _ (List.mem_append_right _ (List.mem_append_left _ h))) gd_X6_plainLong_e)
set_option maxHeartbeats 4000000 in
set_option maxRecDepth 100000 in
theorem c_L_plainLong_e (l : Launch) (D : va_G) (kA : Nat → ClassId) (z : Nat) (hfl : l.stackTraces = false) (h0 a o : Nat) (x0 : Int32) (g : Nat → Int64)  : mI l D (tyL kA) z yL_plainLong wq_L_plainLong_e ({ frames := 8, cells := 1, slots := 6, locals := 141 }) [.ref h0, .int x0, .ref o] [(h0, .inr (7, [.ref a, .int (nI 0), .int (nI 8), .int (nI 0), .int (nI 0), .int (nI 0), .int (nI 0)])), (a, .inl (kA 2, 4, .inr (.inr (.inr (.inr (fun _ => none)))))), (o, .inl (kA 4, 1, .inr (.inl g)))] (fun r w => w = [(h0, .inr (7, [.ref a, .int (nI 0), .int (nI 8), .int (nI 0), .int (nI 0), .int (nI 0), .int (nI 0)])), (a, .inl (kA 2, 4, .inr (.inr (.inr (.inr (fun _ => none)))))), (o, .inl (kA 4, 1, .inr (.inl g)))] ∧ r = nI 1) := by
  refine ofWI (cc := cL_plainLong) (maxL := 4) RL rfl (by decide +kernel) rfl (Nat.le_of_ble_eq_true rfl) ?_
  intro p e s m args below meth c A ls htab hE
  obtain ⟨hx, hb, hr, hml, hts, hown, hlocks, hA, hS, hP, hK, hD, hG, hl⟩ := hE
  have hl : lv_has ls 4 [(0, .ref h0), (1, .int x0), (2, .ref o)] := hl
  have hH : s.heap = s.heap := rfl
  refine lv_aload_n hx hb dL_plainLong_0 rfl (lv_at hl 2 rfl) ?_
  refine lv_iconst (v := nI 0) hx hb dL_plainLong_1 (by decide) ?_
  refine lv_aload_n hx hb dL_plainLong_2 rfl (lv_at hl 0 rfl) ?_
  refine lv_iload_n hx hb dL_plainLong_3 rfl (lv_at hl 1 rfl) ?_
  have hF := va_free (wc := [(h0, .inr (7, [.ref a, .int (nI 0), .int (nI 8), .int (nI 0), .int (nI 0), .int (nI 0), .int (nI 0)])), (a, .inl (kA 2, 4, .inr (.inr (.inr (.inr (fun _ => none))))))]) hD hS hA [0, 1] rfl
  refine vx_calli (vx_runV (As := [.int x0]) (rest := [.int (nI 0), .ref o]) ⟨hx, hb, hml, hown, hts⟩ (c_X6_plainLong_e l D kA z hfl h0 a x0  _) (cwV 1 hts h_L_plainLong_e_0 rfl rfl rfl (by decide +kernel) ⟨Nat.le_of_ble_eq_true rfl, Nat.le_of_ble_eq_true rfl⟩) (fPv hK hP hD hS hG hF [0, 1] (by decide) rfl 0 7 rfl rfl rfl) rfl rfl hl.1 rfl (lv_room (Nat.le_of_ble_eq_true rfl)) dL_plainLong_4 ⟨Nat.le_of_ble_eq_true rfl, Nat.le_of_ble_eq_true rfl⟩) hS (fun q _ h => hF q h) hF (fun q _ h => hF q h) (fun E ce q9 u9 t H locs ht hvm hw hB hz1 hk1 hS hc9 hv9 hcl9 => ?_) (fun r_1 w1 t H locs ht hvm hw hB hz1 hk1 hS => ?_)
  ·
    obtain ⟨E9, w1⟩ := u9
    obtain ⟨e9, hB⟩ := hB
    have e9 : E9 = E := e9
    subst e9
    obtain ⟨hP, hD⟩ := fJ (wr := [(o, .inl (kA 4, 1, .inr (.inl g)))]) hP hD [0, 1] [2] rfl rfl (by decide) (by decide) hk1 hF ht hB
    obtain ⟨hE9, rfl⟩ := hw
    try dsimp only at hE9
    have hP : va_P D vwCl [(o, .inl (kA 4, 1, .inr (.inl g))), (h0, .inr (7, [.ref a, .int (nI 0), .int (nI 8), .int (nI 0), .int (nI 0), .int (nI 0), .int (nI 0)])), (a, .inl (kA 2, 4, .inr (.inr (.inr (.inr (fun _ => none))))))] H := hP
    have hD : va_D A [(o, .inl (kA 4, 1, .inr (.inl g))), (h0, .inr (7, [.ref a, .int (nI 0), .int (nI 8), .int (nI 0), .int (nI 0), .int (nI 0), .int (nI 0)])), (a, .inl (kA 2, 4, .inr (.inr (.inr (.inr (fun _ => none))))))] := hD
    subst hE9
    refine vx_catch (name := "java/lang/IndexOutOfBoundsException") hown [] ⟨0, 9, 12, 24⟩ [] (htab.trans rfl) (fun _ h => absurd h List.not_mem_nil) (by decide) (by decide) (wAt hts 5 (w := .classLink RL 24 "java/lang/IndexOutOfBoundsException") rfl) (va_Nw.use rfl (hG.2.2.2.1.2.2.2.1 _ (List.mem_of_getElem? (i := 21) rfl))) hc9 hv9 hcl9 ?_
    refine lv_astore_n (lv' := [(3, .ref q9), (0, .ref h0), (1, .int x0), (2, .ref o)]) hx hb dL_plainLong_12 rfl hl (by decide) rfl (fun ls hl => ?_)
    refine lv_iconst (v := nI 1) hx hb dL_plainLong_13 (by decide) ?_
    have hP := hP.sub (ws' := [(h0, .inr (7, [.ref a, .int (nI 0), .int (nI 8), .int (nI 0), .int (nI 0), .int (nI 0), .int (nI 0)])), (a, .inl (kA 2, 4, .inr (.inr (.inr (.inr (fun _ => none)))))), (o, .inl (kA 4, 1, .inr (.inl g)))]) [1, 2, 0] rfl
    have hD := hD.sub (ws' := [(h0, .inr (7, [.ref a, .int (nI 0), .int (nI 8), .int (nI 0), .int (nI 0), .int (nI 0), .int (nI 0)])), (a, .inl (kA 2, 4, .inr (.inr (.inr (.inr (fun _ => none)))))), (o, .inl (kA 4, 1, .inr (.inl g)))]) [1, 2, 0] (by decide) rfl
    exact endI hx hb hr hlocks hK hP hD hS (⟨rfl, by first | rfl | assumption | omega | (rw [if_pos (by omega)]; first | done | rfl) | (rw [if_neg (by omega)]; first | done | rfl)⟩) (Nat.le_of_ble_eq_true rfl) (Nat.le_of_ble_eq_true rfl) dL_plainLong_14
  · exact hw.elim

def wq_L_wouldLose_e : List Cond := .codeWith yL_wouldLose cL_wouldLose 4 (some .int) [(0, 9, 12, 24)] :: (([.methodLink RL 83 yX6_wouldLose, .instanceMethod yX6_wouldLose, .selects RX6 yX6_wouldLose yX6_wouldLose, .initialized RX6, .classLink RL 24 "java/lang/IndexOutOfBoundsException"] : List Cond) ++ (wq_X6_wouldLose_e ++ ([] : List Cond)))
theorem gd_L_wouldLose_e : wq_L_wouldLose_e.all goodWord = true := by decide +kernel
theorem h_L_wouldLose_e_0 : GoodIn wq_L_wouldLose_e (wsV RL 83 RX6 yX6_wouldLose wq_X6_wouldLose_e) := goodIn_app (goodIn_r _ [1, 2, 3, 4] (by decide +kernel) (by decide +kernel)) (goodIn_sub (fun w h => List.mem_cons_of_mem _ (List.mem_append_right _ (List.mem_append_left _ h))) gd_X6_wouldLose_e)
set_option maxHeartbeats 4000000 in
set_option maxRecDepth 100000 in
theorem c_L_wouldLose_e (l : Launch) (D : va_G) (kA : Nat → ClassId) (z : Nat) (hfl : l.stackTraces = false) (h0 a o : Nat) (x0 : Int32) (g : Nat → Int64)  : mI l D (tyL kA) z yL_wouldLose wq_L_wouldLose_e ({ frames := 8, cells := 1, slots := 6, locals := 143 }) [.ref h0, .int x0, .ref o] [(h0, .inr (7, [.ref a, .int (nI 0), .int (nI 8), .int (nI 0), .int (nI 0), .int (nI 0), .int (nI 0)])), (a, .inl (kA 2, 4, .inr (.inr (.inr (.inr (fun _ => none)))))), (o, .inl (kA 4, 1, .inr (.inl g)))] (fun r w => w = [(h0, .inr (7, [.ref a, .int (nI 0), .int (nI 8), .int (nI 0), .int (nI 0), .int (nI 0), .int (nI 0)])), (a, .inl (kA 2, 4, .inr (.inr (.inr (.inr (fun _ => none)))))), (o, .inl (kA 4, 1, .inr (.inl g)))] ∧ r = nI 1) := by
  refine ofWI (cc := cL_wouldLose) (maxL := 4) RL rfl (by decide +kernel) rfl (Nat.le_of_ble_eq_true rfl) ?_
  intro p e s m args below meth c A ls htab hE
  obtain ⟨hx, hb, hr, hml, hts, hown, hlocks, hA, hS, hP, hK, hD, hG, hl⟩ := hE
  have hl : lv_has ls 4 [(0, .ref h0), (1, .int x0), (2, .ref o)] := hl
  have hH : s.heap = s.heap := rfl
  refine lv_aload_n hx hb dL_wouldLose_0 rfl (lv_at hl 2 rfl) ?_
  refine lv_iconst (v := nI 0) hx hb dL_wouldLose_1 (by decide) ?_
  refine lv_aload_n hx hb dL_wouldLose_2 rfl (lv_at hl 0 rfl) ?_
  refine lv_iload_n hx hb dL_wouldLose_3 rfl (lv_at hl 1 rfl) ?_
  have hF := va_free (wc := [(h0, .inr (7, [.ref a, .int (nI 0), .int (nI 8), .int (nI 0), .int (nI 0), .int (nI 0), .int (nI 0)])), (a, .inl (kA 2, 4, .inr (.inr (.inr (.inr (fun _ => none))))))]) hD hS hA [0, 1] rfl
  refine vx_calli (vx_runV (As := [.int x0]) (rest := [.int (nI 0), .ref o]) ⟨hx, hb, hml, hown, hts⟩ (c_X6_wouldLose_e l D kA z hfl h0 a x0  _) (cwV 1 hts h_L_wouldLose_e_0 rfl rfl rfl (by decide +kernel) ⟨Nat.le_of_ble_eq_true rfl, Nat.le_of_ble_eq_true rfl⟩) (fPv hK hP hD hS hG hF [0, 1] (by decide) rfl 0 7 rfl rfl rfl) rfl rfl hl.1 rfl (lv_room (Nat.le_of_ble_eq_true rfl)) dL_wouldLose_4 ⟨Nat.le_of_ble_eq_true rfl, Nat.le_of_ble_eq_true rfl⟩) hS (fun q _ h => hF q h) hF (fun q _ h => hF q h) (fun E ce q9 u9 t H locs ht hvm hw hB hz1 hk1 hS hc9 hv9 hcl9 => ?_) (fun r_1 w1 t H locs ht hvm hw hB hz1 hk1 hS => ?_)
  ·
    obtain ⟨E9, w1⟩ := u9
    obtain ⟨e9, hB⟩ := hB
    have e9 : E9 = E := e9
    subst e9
    obtain ⟨hP, hD⟩ := fJ (wr := [(o, .inl (kA 4, 1, .inr (.inl g)))]) hP hD [0, 1] [2] rfl rfl (by decide) (by decide) hk1 hF ht hB
    obtain ⟨hE9, rfl⟩ := hw
    try dsimp only at hE9
    have hP : va_P D vwCl [(o, .inl (kA 4, 1, .inr (.inl g))), (h0, .inr (7, [.ref a, .int (nI 0), .int (nI 8), .int (nI 0), .int (nI 0), .int (nI 0), .int (nI 0)])), (a, .inl (kA 2, 4, .inr (.inr (.inr (.inr (fun _ => none))))))] H := hP
    have hD : va_D A [(o, .inl (kA 4, 1, .inr (.inl g))), (h0, .inr (7, [.ref a, .int (nI 0), .int (nI 8), .int (nI 0), .int (nI 0), .int (nI 0), .int (nI 0)])), (a, .inl (kA 2, 4, .inr (.inr (.inr (.inr (fun _ => none))))))] := hD
    subst hE9
    refine vx_catch (name := "java/lang/IndexOutOfBoundsException") hown [] ⟨0, 9, 12, 24⟩ [] (htab.trans rfl) (fun _ h => absurd h List.not_mem_nil) (by decide) (by decide) (wAt hts 5 (w := .classLink RL 24 "java/lang/IndexOutOfBoundsException") rfl) (va_Nw.use rfl (hG.2.2.2.1.2.2.2.1 _ (List.mem_of_getElem? (i := 21) rfl))) hc9 hv9 hcl9 ?_
    refine lv_astore_n (lv' := [(3, .ref q9), (0, .ref h0), (1, .int x0), (2, .ref o)]) hx hb dL_wouldLose_12 rfl hl (by decide) rfl (fun ls hl => ?_)
    refine lv_iconst (v := nI 1) hx hb dL_wouldLose_13 (by decide) ?_
    have hP := hP.sub (ws' := [(h0, .inr (7, [.ref a, .int (nI 0), .int (nI 8), .int (nI 0), .int (nI 0), .int (nI 0), .int (nI 0)])), (a, .inl (kA 2, 4, .inr (.inr (.inr (.inr (fun _ => none)))))), (o, .inl (kA 4, 1, .inr (.inl g)))]) [1, 2, 0] rfl
    have hD := hD.sub (ws' := [(h0, .inr (7, [.ref a, .int (nI 0), .int (nI 8), .int (nI 0), .int (nI 0), .int (nI 0), .int (nI 0)])), (a, .inl (kA 2, 4, .inr (.inr (.inr (.inr (fun _ => none)))))), (o, .inl (kA 4, 1, .inr (.inl g)))]) [1, 2, 0] (by decide) rfl
    exact endI hx hb hr hlocks hK hP hD hS (⟨rfl, by first | rfl | assumption | omega | (rw [if_pos (by omega)]; first | done | rfl) | (rw [if_neg (by omega)]; first | done | rfl)⟩) (Nat.le_of_ble_eq_true rfl) (Nat.le_of_ble_eq_true rfl) dL_wouldLose_14
  · exact hw.elim

def wq_L_goodBy_e : List Cond := .codeWith yL_goodBy cL_goodBy 5 (some .int) [(0, 10, 13, 24), (0, 10, 17, 13)] :: (([.methodLink RL 86 yX6_goodBy, .instanceMethod yX6_goodBy, .selects RX6 yX6_goodBy yX6_goodBy, .initialized RX6, .classLink RL 24 "java/lang/IndexOutOfBoundsException"] : List Cond) ++ (wq_X6_goodBy_e ++ ([] : List Cond)))
theorem gd_L_goodBy_e : wq_L_goodBy_e.all goodWord = true := by decide +kernel
theorem h_L_goodBy_e_0 : GoodIn wq_L_goodBy_e (wsV RL 86 RX6 yX6_goodBy wq_X6_goodBy_e) := goodIn_app (goodIn_r _ [1, 2, 3, 4] (by decide +kernel) (by decide +kernel)) (goodIn_sub (fun w h => List.mem_cons_of_mem _ (List.mem_append_right _ (List.mem_append_left _ h))) gd_X6_goodBy_e)
set_option maxHeartbeats 4000000 in
set_option maxRecDepth 100000 in
theorem c_L_goodBy_e (l : Launch) (D : va_G) (kA : Nat → ClassId) (z : Nat) (hfl : l.stackTraces = false) (h0 a o : Nat) (x0 x1 : Int32) (g : Nat → Int64)  : mI l D (tyL kA) z yL_goodBy wq_L_goodBy_e ({ frames := 8, cells := 1, slots := 6, locals := 143 }) [.ref h0, .int x0, .int x1, .ref o] [(h0, .inr (7, [.ref a, .int (nI 0), .int (nI 8), .int (nI 0), .int (nI 0), .int (nI 0), .int (nI 0)])), (a, .inl (kA 2, 4, .inr (.inr (.inr (.inr (fun _ => none)))))), (o, .inl (kA 4, 1, .inr (.inl g)))] (fun r w => w = [(h0, .inr (7, [.ref a, .int (nI 0), .int (nI 8), .int (nI 0), .int (nI 0), .int (nI 0), .int (nI 0)])), (a, .inl (kA 2, 4, .inr (.inr (.inr (.inr (fun _ => none)))))), (o, .inl (kA 4, 1, .inr (.inl g)))] ∧ r = nI 1) := by
  refine ofWI (cc := cL_goodBy) (maxL := 5) RL rfl (by decide +kernel) rfl (Nat.le_of_ble_eq_true rfl) ?_
  intro p e s m args below meth c A ls htab hE
  obtain ⟨hx, hb, hr, hml, hts, hown, hlocks, hA, hS, hP, hK, hD, hG, hl⟩ := hE
  have hl : lv_has ls 5 [(0, .ref h0), (1, .int x0), (2, .int x1), (3, .ref o)] := hl
  have hH : s.heap = s.heap := rfl
  refine lv_aload_n hx hb dL_goodBy_0 rfl (lv_at hl 3 rfl) ?_
  refine lv_iconst (v := nI 0) hx hb dL_goodBy_1 (by decide) ?_
  refine lv_aload_n hx hb dL_goodBy_2 rfl (lv_at hl 0 rfl) ?_
  refine lv_iload_n hx hb dL_goodBy_3 rfl (lv_at hl 1 rfl) ?_
  refine lv_iload_n hx hb dL_goodBy_4 rfl (lv_at hl 2 rfl) ?_
  have hF := va_free (wc := [(h0, .inr (7, [.ref a, .int (nI 0), .int (nI 8), .int (nI 0), .int (nI 0), .int (nI 0), .int (nI 0)])), (a, .inl (kA 2, 4, .inr (.inr (.inr (.inr (fun _ => none))))))]) hD hS hA [0, 1] rfl
  refine vx_calli (vx_runV (As := [.int x0, .int x1]) (rest := [.int (nI 0), .ref o]) ⟨hx, hb, hml, hown, hts⟩ (c_X6_goodBy_e l D kA z hfl h0 a x0 x1  _) (cwV 2 hts h_L_goodBy_e_0 rfl rfl rfl (by decide +kernel) ⟨Nat.le_of_ble_eq_true rfl, Nat.le_of_ble_eq_true rfl⟩) (fPv hK hP hD hS hG hF [0, 1] (by decide) rfl 0 7 rfl rfl rfl) rfl rfl hl.1 rfl (lv_room (Nat.le_of_ble_eq_true rfl)) dL_goodBy_5 ⟨Nat.le_of_ble_eq_true rfl, Nat.le_of_ble_eq_true rfl⟩) hS (fun q _ h => hF q h) hF (fun q _ h => hF q h) (fun E ce q9 u9 t H locs ht hvm hw hB hz1 hk1 hS hc9 hv9 hcl9 => ?_) (fun r_1 w1 t H locs ht hvm hw hB hz1 hk1 hS => ?_)
  ·
    obtain ⟨E9, w1⟩ := u9
    obtain ⟨e9, hB⟩ := hB
    have e9 : E9 = E := e9
    subst e9
    obtain ⟨hP, hD⟩ := fJ (wr := [(o, .inl (kA 4, 1, .inr (.inl g)))]) hP hD [0, 1] [2] rfl rfl (by decide) (by decide) hk1 hF ht hB
    obtain ⟨hE9, rfl⟩ := hw
    try dsimp only at hE9
    have hP : va_P D vwCl [(o, .inl (kA 4, 1, .inr (.inl g))), (h0, .inr (7, [.ref a, .int (nI 0), .int (nI 8), .int (nI 0), .int (nI 0), .int (nI 0), .int (nI 0)])), (a, .inl (kA 2, 4, .inr (.inr (.inr (.inr (fun _ => none))))))] H := hP
    have hD : va_D A [(o, .inl (kA 4, 1, .inr (.inl g))), (h0, .inr (7, [.ref a, .int (nI 0), .int (nI 8), .int (nI 0), .int (nI 0), .int (nI 0), .int (nI 0)])), (a, .inl (kA 2, 4, .inr (.inr (.inr (.inr (fun _ => none))))))] := hD
    subst hE9
    refine vx_catch (name := "java/lang/IndexOutOfBoundsException") hown [] ⟨0, 10, 13, 24⟩ [⟨0, 10, 17, 13⟩] (htab.trans rfl) (fun _ h => absurd h List.not_mem_nil) (by decide) (by decide) (wAt hts 5 (w := .classLink RL 24 "java/lang/IndexOutOfBoundsException") rfl) (va_Nw.use rfl (hG.2.2.2.1.2.2.2.1 _ (List.mem_of_getElem? (i := 21) rfl))) hc9 hv9 hcl9 ?_
    refine lv_astore (lv' := [(4, .ref q9), (0, .ref h0), (1, .int x0), (2, .int x1), (3, .ref o)]) hx hb dL_goodBy_13 hl (by decide) rfl (fun ls hl => ?_)
    refine lv_iconst (v := nI 1) hx hb dL_goodBy_15 (by decide) ?_
    have hP := hP.sub (ws' := [(h0, .inr (7, [.ref a, .int (nI 0), .int (nI 8), .int (nI 0), .int (nI 0), .int (nI 0), .int (nI 0)])), (a, .inl (kA 2, 4, .inr (.inr (.inr (.inr (fun _ => none)))))), (o, .inl (kA 4, 1, .inr (.inl g)))]) [1, 2, 0] rfl
    have hD := hD.sub (ws' := [(h0, .inr (7, [.ref a, .int (nI 0), .int (nI 8), .int (nI 0), .int (nI 0), .int (nI 0), .int (nI 0)])), (a, .inl (kA 2, 4, .inr (.inr (.inr (.inr (fun _ => none)))))), (o, .inl (kA 4, 1, .inr (.inl g)))]) [1, 2, 0] (by decide) rfl
    exact endI hx hb hr hlocks hK hP hD hS (⟨rfl, by first | rfl | assumption | omega | (rw [if_pos (by omega)]; first | done | rfl) | (rw [if_neg (by omega)]; first | done | rfl)⟩) (Nat.le_of_ble_eq_true rfl) (Nat.le_of_ble_eq_true rfl) dL_goodBy_16
  · exact hw.elim

def wq_L_speed_ok : List Cond := .codeWith yL_speed cL_speed 4 (some .int) [(0, 9, 12, 13)] :: (([.methodLink RL 17 yX6_speed, .instanceMethod yX6_speed, .selects RX6 yX6_speed yX6_speed, .initialized RX6] : List Cond) ++ (wq_X6_speed_x ++ ([] : List Cond)))
theorem gd_L_speed_ok : wq_L_speed_ok.all goodWord = true := by decide +kernel
theorem h_L_speed_ok_0 : GoodIn wq_L_speed_ok (wsV RL 17 RX6 yX6_speed wq_X6_speed_x) := goodIn_app (goodIn_r _ [1, 2, 3, 4] (by decide +kernel) (by decide +kernel)) (goodIn_sub (fun w h => List.mem_cons_of_mem _ (List.mem_append_right _ (List.mem_append_left _ h))) gd_X6_speed_x)
set_option maxHeartbeats 4000000 in
set_option maxRecDepth 100000 in
theorem c_L_speed_ok (l : Launch) (D : va_G) (kA : Nat → ClassId) (z : Nat) (hfl : l.stackTraces = false) (h0 a o n : Nat) (g : Nat → Int64) (h1 : 6 ≤ n) (h2 : n ≤ 11) : mI l D (tyL kA) z yL_speed wq_L_speed_ok ({ frames := 7, cells := 1, slots := 6, locals := 112 }) [.ref h0, .int (nI n), .ref o] [(h0, .inr (7, [.ref a, .int (nI 0), .int (nI 8), .int (nI 0), .int (nI 0), .int (nI 0), .int (nI 0)])), (a, .inl (kA 2, 4, .inr (.inr (.inr (.inr (fun _ => none)))))), (o, .inl (kA 4, 1, .inr (.inl g)))] (fun r w => w = [(h0, .inr (7, [.ref a, .int (nI 0), .int (nI n), .int (nI 0), .int (nI 0), .int (nI 0), .int (nI 0)])), (a, .inl (kA 2, 4, .inr (.inr (.inr (.inr (fun _ => none)))))), (o, .inl (kA 4, 1, .inr (.inl (vp_updL g 0 (nI 8).toInt64))))] ∧ r = nI 0) := by
  refine ofWI (cc := cL_speed) (maxL := 4) RL rfl (by decide +kernel) rfl (Nat.le_of_ble_eq_true rfl) ?_
  intro p e s m args below meth c A ls htab hE
  obtain ⟨hx, hb, hr, hml, hts, hown, hlocks, hA, hS, hP, hK, hD, hG, hl⟩ := hE
  have hl : lv_has ls 4 [(0, .ref h0), (1, .int (nI n)), (2, .ref o)] := hl
  have hH : s.heap = s.heap := rfl
  refine lv_aload_n hx hb dL_speed_0 rfl (lv_at hl 2 rfl) ?_
  refine lv_iconst (v := nI 0) hx hb dL_speed_1 (by decide) ?_
  refine lv_aload_n hx hb dL_speed_2 rfl (lv_at hl 0 rfl) ?_
  refine lv_iload_n hx hb dL_speed_3 rfl (lv_at hl 1 rfl) ?_
  have hF := va_free (wc := [(h0, .inr (7, [.ref a, .int (nI 0), .int (nI 8), .int (nI 0), .int (nI 0), .int (nI 0), .int (nI 0)]))]) hD hS hA [0] rfl
  refine vx_calli (vx_runV (As := [.int (nI n)]) (rest := [.int (nI 0), .ref o]) ⟨hx, hb, hml, hown, hts⟩ (c_X6_speed_x l D kA z hfl h0 a (nI 0) (nI 8) (nI 0) (nI 0) (nI 0) (nI 0) (nI n)  _) (cwV 1 hts h_L_speed_ok_0 rfl rfl rfl (by decide +kernel) ⟨Nat.le_of_ble_eq_true rfl, Nat.le_of_ble_eq_true rfl⟩) (fPv hK hP hD hS hG hF [0] (by decide) rfl 0 7 rfl rfl rfl) rfl rfl hl.1 rfl (lv_room (Nat.le_of_ble_eq_true rfl)) dL_speed_4 ⟨Nat.le_of_ble_eq_true rfl, Nat.le_of_ble_eq_true rfl⟩) hS (fun q _ h => hF q h) hF (fun q _ h => hF q h) (fun E ce q9 u9 t H locs ht hvm hw hB hz1 hk1 hS hc9 hv9 hcl9 => ?_) (fun r_1 w1 t H locs ht hvm hw hB hz1 hk1 hS => ?_)
  ·
    obtain ⟨E9, w1⟩ := u9
    obtain ⟨e9, hB⟩ := hB
    have e9 : E9 = E := e9
    subst e9
    obtain ⟨hP, hD⟩ := fJ (wr := [(a, .inl (kA 2, 4, .inr (.inr (.inr (.inr (fun _ => none)))))), (o, .inl (kA 4, 1, .inr (.inl g)))]) hP hD [0] [1, 2] rfl rfl (by decide) (by decide) hk1 hF ht hB
    obtain ⟨hE9, rfl⟩ := hw
    try dsimp only at hE9
    have hP : va_P D vwCl [(a, .inl (kA 2, 4, .inr (.inr (.inr (.inr (fun _ => none)))))), (o, .inl (kA 4, 1, .inr (.inl g))), (h0, .inr (7, [.ref a, .int (nI 0), .int (nI 8), .int (nI 0), .int (nI 0), .int (nI 0), .int (nI 0)]))] H := hP
    have hD : va_D A [(a, .inl (kA 2, 4, .inr (.inr (.inr (.inr (fun _ => none)))))), (o, .inl (kA 4, 1, .inr (.inl g))), (h0, .inr (7, [.ref a, .int (nI 0), .int (nI 8), .int (nI 0), .int (nI 0), .int (nI 0), .int (nI 0)]))] := hD
    exact (hE9.2 n h1 h2 rfl).elim
  ·
    obtain ⟨hP, hD⟩ := fJ (wr := [(a, .inl (kA 2, 4, .inr (.inr (.inr (.inr (fun _ => none)))))), (o, .inl (kA 4, 1, .inr (.inl g)))]) hP hD [0] [1, 2] rfl rfl (by decide) (by decide) hk1 hF ht hB
    try dsimp only at hw
    obtain ⟨n_1, rfl, h_1, h_2, e_1, e_2⟩ := hw
    replace e_1 := (nI_eq (a := n) (b := n_1) (by omega) (by omega)).mp e_1
    subst e_1
    replace e_2 := e_2.symm
    subst e_2
    have hP : va_P D vwCl [(a, .inl (kA 2, 4, .inr (.inr (.inr (.inr (fun _ => none)))))), (o, .inl (kA 4, 1, .inr (.inl g))), (h0, .inr (7, [.ref a, .int (nI 0), .int (nI n), .int (nI 0), .int (nI 0), .int (nI 0), .int (nI 0)]))] H := hP
    have hD : va_D A [(a, .inl (kA 2, 4, .inr (.inr (.inr (.inr (fun _ => none)))))), (o, .inl (kA 4, 1, .inr (.inl g))), (h0, .inr (7, [.ref a, .int (nI 0), .int (nI n), .int (nI 0), .int (nI 0), .int (nI 0), .int (nI 0)]))] := hD
    refine lv_i2l (v := (nI 8).toInt64) hx hb dL_speed_7 rfl ?_
    refine va_last hx hb hK hP hD hS 1 4 rfl rfl (vp_in_nI (n := 0) (by omega) (by decide)) dL_speed_8 (fun H locs hP hD hS => ?_)
    rw [nI_clamp (n := 0) (by omega)] at hP hD
    have hP : va_P D vwCl [(a, .inl (kA 2, 4, .inr (.inr (.inr (.inr (fun _ => none)))))), (o, .inl (kA 4, 1, .inr (.inl (vp_updL g 0 (nI 8).toInt64)))), (h0, .inr (7, [.ref a, .int (nI 0), .int (nI n), .int (nI 0), .int (nI 0), .int (nI 0), .int (nI 0)]))] H := hP
    have hD : va_D A [(a, .inl (kA 2, 4, .inr (.inr (.inr (.inr (fun _ => none)))))), (o, .inl (kA 4, 1, .inr (.inl (vp_updL g 0 (nI 8).toInt64)))), (h0, .inr (7, [.ref a, .int (nI 0), .int (nI n), .int (nI 0), .int (nI 0), .int (nI 0), .int (nI 0)]))] := hD
    refine lv_goto (tgt := 15) hx hb dL_speed_9 (by decide) ?_
    refine lv_iconst (v := nI 0) hx hb dL_speed_15 (by decide) ?_
    have hP := hP.sub (ws' := [(h0, .inr (7, [.ref a, .int (nI 0), .int (nI n), .int (nI 0), .int (nI 0), .int (nI 0), .int (nI 0)])), (a, .inl (kA 2, 4, .inr (.inr (.inr (.inr (fun _ => none)))))), (o, .inl (kA 4, 1, .inr (.inl (vp_updL g 0 (nI 8).toInt64))))]) [2, 0, 1] rfl
    have hD := hD.sub (ws' := [(h0, .inr (7, [.ref a, .int (nI 0), .int (nI n), .int (nI 0), .int (nI 0), .int (nI 0), .int (nI 0)])), (a, .inl (kA 2, 4, .inr (.inr (.inr (.inr (fun _ => none)))))), (o, .inl (kA 4, 1, .inr (.inl (vp_updL g 0 (nI 8).toInt64))))]) [2, 0, 1] (by decide) rfl
    exact endI hx hb hr hlocks hK hP hD hS (⟨rfl, by first | rfl | assumption | omega | (rw [if_pos (by omega)]; first | done | rfl) | (rw [if_neg (by omega)]; first | done | rfl)⟩) (Nat.le_of_ble_eq_true rfl) (Nat.le_of_ble_eq_true rfl) dL_speed_16

def wq_L_speed_no : List Cond := .codeWith yL_speed cL_speed 4 (some .int) [(0, 9, 12, 13)] :: (([.methodLink RL 17 yX6_speed, .instanceMethod yX6_speed, .selects RX6 yX6_speed yX6_speed, .initialized RX6, .classLink RL 13 "java/lang/IllegalArgumentException"] : List Cond) ++ (wq_X6_speed_x ++ ([] : List Cond)))
theorem gd_L_speed_no : wq_L_speed_no.all goodWord = true := by decide +kernel
theorem h_L_speed_no_0 : GoodIn wq_L_speed_no (wsV RL 17 RX6 yX6_speed wq_X6_speed_x) := goodIn_app (goodIn_r _ [1, 2, 3, 4] (by decide +kernel) (by decide +kernel)) (goodIn_sub (fun w h => List.mem_cons_of_mem _ (List.mem_append_right _ (List.mem_append_left _ h))) gd_X6_speed_x)
set_option maxHeartbeats 4000000 in
set_option maxRecDepth 100000 in
theorem c_L_speed_no (l : Launch) (D : va_G) (kA : Nat → ClassId) (z : Nat) (hfl : l.stackTraces = false) (h0 a o : Nat) (x : Int32) (g : Nat → Int64) (hxx : ∀ n : Nat, 6 ≤ n → n ≤ 11 → x ≠ nI n) : mI l D (tyL kA) z yL_speed wq_L_speed_no ({ frames := 7, cells := 1, slots := 6, locals := 112 }) [.ref h0, .int x, .ref o] [(h0, .inr (7, [.ref a, .int (nI 0), .int (nI 8), .int (nI 0), .int (nI 0), .int (nI 0), .int (nI 0)])), (a, .inl (kA 2, 4, .inr (.inr (.inr (.inr (fun _ => none)))))), (o, .inl (kA 4, 1, .inr (.inl g)))] (fun r w => w = [(h0, .inr (7, [.ref a, .int (nI 0), .int (nI 8), .int (nI 0), .int (nI 0), .int (nI 0), .int (nI 0)])), (a, .inl (kA 2, 4, .inr (.inr (.inr (.inr (fun _ => none)))))), (o, .inl (kA 4, 1, .inr (.inl g)))] ∧ r = nI 1) := by
  refine ofWI (cc := cL_speed) (maxL := 4) RL rfl (by decide +kernel) rfl (Nat.le_of_ble_eq_true rfl) ?_
  intro p e s m args below meth c A ls htab hE
  obtain ⟨hx, hb, hr, hml, hts, hown, hlocks, hA, hS, hP, hK, hD, hG, hl⟩ := hE
  have hl : lv_has ls 4 [(0, .ref h0), (1, .int x), (2, .ref o)] := hl
  have hH : s.heap = s.heap := rfl
  refine lv_aload_n hx hb dL_speed_0 rfl (lv_at hl 2 rfl) ?_
  refine lv_iconst (v := nI 0) hx hb dL_speed_1 (by decide) ?_
  refine lv_aload_n hx hb dL_speed_2 rfl (lv_at hl 0 rfl) ?_
  refine lv_iload_n hx hb dL_speed_3 rfl (lv_at hl 1 rfl) ?_
  have hF := va_free (wc := [(h0, .inr (7, [.ref a, .int (nI 0), .int (nI 8), .int (nI 0), .int (nI 0), .int (nI 0), .int (nI 0)]))]) hD hS hA [0] rfl
  refine vx_calli (vx_runV (As := [.int x]) (rest := [.int (nI 0), .ref o]) ⟨hx, hb, hml, hown, hts⟩ (c_X6_speed_x l D kA z hfl h0 a (nI 0) (nI 8) (nI 0) (nI 0) (nI 0) (nI 0) x  _) (cwV 1 hts h_L_speed_no_0 rfl rfl rfl (by decide +kernel) ⟨Nat.le_of_ble_eq_true rfl, Nat.le_of_ble_eq_true rfl⟩) (fPv hK hP hD hS hG hF [0] (by decide) rfl 0 7 rfl rfl rfl) rfl rfl hl.1 rfl (lv_room (Nat.le_of_ble_eq_true rfl)) dL_speed_4 ⟨Nat.le_of_ble_eq_true rfl, Nat.le_of_ble_eq_true rfl⟩) hS (fun q _ h => hF q h) hF (fun q _ h => hF q h) (fun E ce q9 u9 t H locs ht hvm hw hB hz1 hk1 hS hc9 hv9 hcl9 => ?_) (fun r_1 w1 t H locs ht hvm hw hB hz1 hk1 hS => ?_)
  ·
    obtain ⟨E9, w1⟩ := u9
    obtain ⟨e9, hB⟩ := hB
    have e9 : E9 = E := e9
    subst e9
    obtain ⟨hP, hD⟩ := fJ (wr := [(a, .inl (kA 2, 4, .inr (.inr (.inr (.inr (fun _ => none)))))), (o, .inl (kA 4, 1, .inr (.inl g)))]) hP hD [0] [1, 2] rfl rfl (by decide) (by decide) hk1 hF ht hB
    obtain ⟨hE9, rfl⟩ := hw
    try dsimp only at hE9
    have hP : va_P D vwCl [(a, .inl (kA 2, 4, .inr (.inr (.inr (.inr (fun _ => none)))))), (o, .inl (kA 4, 1, .inr (.inl g))), (h0, .inr (7, [.ref a, .int (nI 0), .int (nI 8), .int (nI 0), .int (nI 0), .int (nI 0), .int (nI 0)]))] H := hP
    have hD : va_D A [(a, .inl (kA 2, 4, .inr (.inr (.inr (.inr (fun _ => none)))))), (o, .inl (kA 4, 1, .inr (.inl g))), (h0, .inr (7, [.ref a, .int (nI 0), .int (nI 8), .int (nI 0), .int (nI 0), .int (nI 0), .int (nI 0)]))] := hD
    obtain ⟨rfl, hE9⟩ := hE9
    refine vx_catch (name := "java/lang/IllegalArgumentException") hown [] ⟨0, 9, 12, 13⟩ [] (htab.trans rfl) (fun _ h => absurd h List.not_mem_nil) (by decide) (by decide) (wAt hts 5 (w := .classLink RL 13 "java/lang/IllegalArgumentException") rfl) (va_Nw.use rfl (hG.2.2.2.1.2.2.2.1 _ (List.mem_of_getElem? (i := 17) rfl))) hc9 hv9 hcl9 ?_
    refine lv_astore_n (lv' := [(3, .ref q9), (0, .ref h0), (1, .int x), (2, .ref o)]) hx hb dL_speed_12 rfl hl (by decide) rfl (fun ls hl => ?_)
    refine lv_iconst (v := nI 1) hx hb dL_speed_13 (by decide) ?_
    have hP := hP.sub (ws' := [(h0, .inr (7, [.ref a, .int (nI 0), .int (nI 8), .int (nI 0), .int (nI 0), .int (nI 0), .int (nI 0)])), (a, .inl (kA 2, 4, .inr (.inr (.inr (.inr (fun _ => none)))))), (o, .inl (kA 4, 1, .inr (.inl g)))]) [2, 0, 1] rfl
    have hD := hD.sub (ws' := [(h0, .inr (7, [.ref a, .int (nI 0), .int (nI 8), .int (nI 0), .int (nI 0), .int (nI 0), .int (nI 0)])), (a, .inl (kA 2, 4, .inr (.inr (.inr (.inr (fun _ => none)))))), (o, .inl (kA 4, 1, .inr (.inl g)))]) [2, 0, 1] (by decide) rfl
    exact endI hx hb hr hlocks hK hP hD hS (⟨rfl, by first | rfl | assumption | omega | (rw [if_pos (by omega)]; first | done | rfl) | (rw [if_neg (by omega)]; first | done | rfl)⟩) (Nat.le_of_ble_eq_true rfl) (Nat.le_of_ble_eq_true rfl) dL_speed_14
  ·
    try dsimp only at hw
    obtain ⟨p9_0, -, f9_0, f9_1, f9_2, f9_3⟩ := hw
    exact (hxx p9_0 f9_0 f9_1 f9_2).elim

def wq_L_track_ok : List Cond := .codeWith yL_track cL_track 4 (some .int) [(0, 9, 12, 13), (0, 9, 15, 15)] :: (([.methodLink RL 7 yX6_track, .instanceMethod yX6_track, .selects RX6 yX6_track yX6_track, .initialized RX6] : List Cond) ++ (wq_X6_track_e ++ ([] : List Cond)))
theorem gd_L_track_ok : wq_L_track_ok.all goodWord = true := by decide +kernel
theorem h_L_track_ok_0 : GoodIn wq_L_track_ok (wsV RL 7 RX6 yX6_track wq_X6_track_e) := goodIn_app (goodIn_r _ [1, 2, 3, 4] (by decide +kernel) (by decide +kernel)) (goodIn_sub (fun w h => List.mem_cons_of_mem _ (List.mem_append_right _ (List.mem_append_left _ h))) gd_X6_track_e)
set_option maxHeartbeats 4000000 in
set_option maxRecDepth 100000 in
theorem c_L_track_ok (l : Launch) (D : va_G) (kA : Nat → ClassId) (z : Nat) (hfl : l.stackTraces = false) (h0 a o n : Nat) (g : Nat → Int64) (h2 : n ≤ 2) : mI l D (tyL kA) z yL_track wq_L_track_ok ({ frames := 8, cells := 24, slots := 3424, locals := 142 }) [.ref h0, .int (nI n), .ref o] [(h0, .inr (7, [.ref a, .int (nI 0), .int (nI 8), .int (nI 0), .int (nI 0), .int (nI 0), .int (nI 0)])), (a, .inl (kA 2, 4, .inr (.inr (.inr (.inr (fun _ => none)))))), (o, .inl (kA 4, 1, .inr (.inl g)))] (fun r w => ∃ (tr su vo fp fg t0 t1 t2 s1 s2 s3 s4 v1 p1 p2 g1 g2 r0 q0 r1 q1 r2 q2 : Nat), w = [(h0, .inr (7, [.ref a, .int (nI 1), .int (nI 8), .int (nI 0), .int (nI 0), .int (nI 0), .int (nI 0)])), (a, .inl (kA 2, 4, .inr (.inr (.inr (.inr (va_up (fun _ => none) 0 (some tr))))))), (tr, .inr (5, [.ref su, .ref vo, .ref fp, .ref fg, .ref t0, .ref t1, .ref t2, .int (nI n), .int (nI 0), .int (nI 0), .int (nI 0), .int (nI 0)])), (su, .inr (4, [.ref s1, .ref s2, .ref s3, .ref s4, .int (nI 0), .int (nI 0)])), (s1, .inl (kA 0, 400, .inl (fun _ => 0))), (s2, .inl (kA 0, 400, .inl (fun _ => 0))), (s3, .inl (kA 1, 400, .inl (fun _ => 0))), (s4, .inl (kA 0, 400, .inl (fun _ => 0))), (vo, .inr (3, [.ref v1, .int (nI 0), .int (nI 1)])), (v1, .inl (kA 0, 400, .inl (fun _ => 0))), (fp, .inr (2, [.int (nI 1), .ref p1, .ref p2, .int (nI 0), .int (nI 0), .int (nI 0), .int (nI 0), .int (nI 0), .int (nI 0)])), (p1, .inl (kA 0, 72, .inl (fun _ => 0))), (p2, .inl (kA 0, 8, .inl (fun _ => 0))), (fg, .inr (2, [.int (nI 2), .ref g1, .ref g2, .int (nI 0), .int (nI 0), .int (nI 0), .int (nI 0), .int (nI 0), .int (nI 0)])), (g1, .inl (kA 0, 72, .inl (fun _ => 0))), (g2, .inl (kA 0, 8, .inl (fun _ => 0))), (t0, .inr (6, [.ref r0, .double 4620693217682128896])), (r0, .inr (3, [.ref q0, .int (nI 0), .int (nI 1)])), (q0, .inl (kA 0, 400, .inl (fun _ => 0))), (t1, .inr (6, [.ref r1, .double 4620693217682128896])), (r1, .inr (3, [.ref q1, .int (nI 0), .int (nI 1)])), (q1, .inl (kA 0, 400, .inl (fun _ => 0))), (t2, .inr (6, [.ref r2, .double 4620693217682128896])), (r2, .inr (3, [.ref q2, .int (nI 0), .int (nI 1)])), (q2, .inl (kA 0, 400, .inl (fun _ => 0))), (o, .inl (kA 4, 1, .inr (.inl (vp_updL g 0 (nI 0).toInt64))))] ∧ r = nI 0) := by
  refine ofWI (cc := cL_track) (maxL := 4) RL rfl (by decide +kernel) rfl (Nat.le_of_ble_eq_true rfl) ?_
  intro p e s m args below meth c A ls htab hE
  obtain ⟨hx, hb, hr, hml, hts, hown, hlocks, hA, hS, hP, hK, hD, hG, hl⟩ := hE
  have hl : lv_has ls 4 [(0, .ref h0), (1, .int (nI n)), (2, .ref o)] := hl
  have hH : s.heap = s.heap := rfl
  refine lv_aload_n hx hb dL_track_0 rfl (lv_at hl 2 rfl) ?_
  refine lv_iconst (v := nI 0) hx hb dL_track_1 (by decide) ?_
  refine lv_aload_n hx hb dL_track_2 rfl (lv_at hl 0 rfl) ?_
  refine lv_iload_n hx hb dL_track_3 rfl (lv_at hl 1 rfl) ?_
  have hF := va_free (wc := [(h0, .inr (7, [.ref a, .int (nI 0), .int (nI 8), .int (nI 0), .int (nI 0), .int (nI 0), .int (nI 0)])), (a, .inl (kA 2, 4, .inr (.inr (.inr (.inr (fun _ => none))))))]) hD hS hA [0, 1] rfl
  refine vx_calli (vx_runV (As := [.int (nI n)]) (rest := [.int (nI 0), .ref o]) ⟨hx, hb, hml, hown, hts⟩ (c_X6_track_e l D kA z hfl h0 a (nI n)  _) (cwV 1 hts h_L_track_ok_0 rfl rfl rfl (by decide +kernel) ⟨Nat.le_of_ble_eq_true rfl, Nat.le_of_ble_eq_true rfl⟩) (fPv hK hP hD hS hG hF [0, 1] (by decide) rfl 0 7 rfl rfl rfl) rfl rfl hl.1 rfl (lv_room (Nat.le_of_ble_eq_true rfl)) dL_track_4 ⟨Nat.le_of_ble_eq_true rfl, Nat.le_of_ble_eq_true rfl⟩) hS (fun q _ h => hF q h) hF (fun q _ h => hF q h) (fun E ce q9 u9 t H locs ht hvm hw hB hz1 hk1 hS hc9 hv9 hcl9 => ?_) (fun r_4 w1 t H locs ht hvm hw hB hz1 hk1 hS => ?_)
  ·
    obtain ⟨E9, w1⟩ := u9
    obtain ⟨e9, hB⟩ := hB
    have e9 : E9 = E := e9
    subst e9
    obtain ⟨hP, hD⟩ := fJ (wr := [(o, .inl (kA 4, 1, .inr (.inl g)))]) hP hD [0, 1] [2] rfl rfl (by decide) (by decide) hk1 hF ht hB
    obtain ⟨hE9, rfl⟩ := hw
    try dsimp only at hE9
    have hP : va_P D vwCl [(o, .inl (kA 4, 1, .inr (.inl g))), (h0, .inr (7, [.ref a, .int (nI 0), .int (nI 8), .int (nI 0), .int (nI 0), .int (nI 0), .int (nI 0)])), (a, .inl (kA 2, 4, .inr (.inr (.inr (.inr (fun _ => none))))))] H := hP
    have hD : va_D A [(o, .inl (kA 4, 1, .inr (.inl g))), (h0, .inr (7, [.ref a, .int (nI 0), .int (nI 8), .int (nI 0), .int (nI 0), .int (nI 0), .int (nI 0)])), (a, .inl (kA 2, 4, .inr (.inr (.inr (.inr (fun _ => none))))))] := hD
    exact (hE9.2 n h2 rfl).elim
  ·
    obtain ⟨hP, hD⟩ := fJ (wr := [(o, .inl (kA 4, 1, .inr (.inl g)))]) hP hD [0, 1] [2] rfl rfl (by decide) (by decide) hk1 hF ht hB
    try dsimp only at hw
    obtain ⟨n_1, tr_1, su_1, vo_1, fp_1, fg_1, t_1, t_2, t_3, s_1, s_2, s_3, s_4, v_1, p_1, p_2, g_1, g_2, r_1, q_1, r_2, q_2, r_3, q_3, rfl, h_1, e_1, e_2⟩ := hw
    replace e_1 := (nI_eq (a := n) (b := n_1) (by omega) (by omega)).mp e_1
    subst e_1
    replace e_2 := e_2.symm
    subst e_2
    have hP : va_P D vwCl [(o, .inl (kA 4, 1, .inr (.inl g))), (h0, .inr (7, [.ref a, .int (nI 1), .int (nI 8), .int (nI 0), .int (nI 0), .int (nI 0), .int (nI 0)])), (a, .inl (kA 2, 4, .inr (.inr (.inr (.inr (va_up (fun _ => none) 0 (some tr_1))))))), (tr_1, .inr (5, [.ref su_1, .ref vo_1, .ref fp_1, .ref fg_1, .ref t_1, .ref t_2, .ref t_3, .int (nI n), .int (nI 0), .int (nI 0), .int (nI 0), .int (nI 0)])), (su_1, .inr (4, [.ref s_1, .ref s_2, .ref s_3, .ref s_4, .int (nI 0), .int (nI 0)])), (s_1, .inl (kA 0, 400, .inl (fun _ => 0))), (s_2, .inl (kA 0, 400, .inl (fun _ => 0))), (s_3, .inl (kA 1, 400, .inl (fun _ => 0))), (s_4, .inl (kA 0, 400, .inl (fun _ => 0))), (vo_1, .inr (3, [.ref v_1, .int (nI 0), .int (nI 1)])), (v_1, .inl (kA 0, 400, .inl (fun _ => 0))), (fp_1, .inr (2, [.int (nI 1), .ref p_1, .ref p_2, .int (nI 0), .int (nI 0), .int (nI 0), .int (nI 0), .int (nI 0), .int (nI 0)])), (p_1, .inl (kA 0, 72, .inl (fun _ => 0))), (p_2, .inl (kA 0, 8, .inl (fun _ => 0))), (fg_1, .inr (2, [.int (nI 2), .ref g_1, .ref g_2, .int (nI 0), .int (nI 0), .int (nI 0), .int (nI 0), .int (nI 0), .int (nI 0)])), (g_1, .inl (kA 0, 72, .inl (fun _ => 0))), (g_2, .inl (kA 0, 8, .inl (fun _ => 0))), (t_1, .inr (6, [.ref r_1, .double 4620693217682128896])), (r_1, .inr (3, [.ref q_1, .int (nI 0), .int (nI 1)])), (q_1, .inl (kA 0, 400, .inl (fun _ => 0))), (t_2, .inr (6, [.ref r_2, .double 4620693217682128896])), (r_2, .inr (3, [.ref q_2, .int (nI 0), .int (nI 1)])), (q_2, .inl (kA 0, 400, .inl (fun _ => 0))), (t_3, .inr (6, [.ref r_3, .double 4620693217682128896])), (r_3, .inr (3, [.ref q_3, .int (nI 0), .int (nI 1)])), (q_3, .inl (kA 0, 400, .inl (fun _ => 0)))] H := hP
    have hD : va_D A [(o, .inl (kA 4, 1, .inr (.inl g))), (h0, .inr (7, [.ref a, .int (nI 1), .int (nI 8), .int (nI 0), .int (nI 0), .int (nI 0), .int (nI 0)])), (a, .inl (kA 2, 4, .inr (.inr (.inr (.inr (va_up (fun _ => none) 0 (some tr_1))))))), (tr_1, .inr (5, [.ref su_1, .ref vo_1, .ref fp_1, .ref fg_1, .ref t_1, .ref t_2, .ref t_3, .int (nI n), .int (nI 0), .int (nI 0), .int (nI 0), .int (nI 0)])), (su_1, .inr (4, [.ref s_1, .ref s_2, .ref s_3, .ref s_4, .int (nI 0), .int (nI 0)])), (s_1, .inl (kA 0, 400, .inl (fun _ => 0))), (s_2, .inl (kA 0, 400, .inl (fun _ => 0))), (s_3, .inl (kA 1, 400, .inl (fun _ => 0))), (s_4, .inl (kA 0, 400, .inl (fun _ => 0))), (vo_1, .inr (3, [.ref v_1, .int (nI 0), .int (nI 1)])), (v_1, .inl (kA 0, 400, .inl (fun _ => 0))), (fp_1, .inr (2, [.int (nI 1), .ref p_1, .ref p_2, .int (nI 0), .int (nI 0), .int (nI 0), .int (nI 0), .int (nI 0), .int (nI 0)])), (p_1, .inl (kA 0, 72, .inl (fun _ => 0))), (p_2, .inl (kA 0, 8, .inl (fun _ => 0))), (fg_1, .inr (2, [.int (nI 2), .ref g_1, .ref g_2, .int (nI 0), .int (nI 0), .int (nI 0), .int (nI 0), .int (nI 0), .int (nI 0)])), (g_1, .inl (kA 0, 72, .inl (fun _ => 0))), (g_2, .inl (kA 0, 8, .inl (fun _ => 0))), (t_1, .inr (6, [.ref r_1, .double 4620693217682128896])), (r_1, .inr (3, [.ref q_1, .int (nI 0), .int (nI 1)])), (q_1, .inl (kA 0, 400, .inl (fun _ => 0))), (t_2, .inr (6, [.ref r_2, .double 4620693217682128896])), (r_2, .inr (3, [.ref q_2, .int (nI 0), .int (nI 1)])), (q_2, .inl (kA 0, 400, .inl (fun _ => 0))), (t_3, .inr (6, [.ref r_3, .double 4620693217682128896])), (r_3, .inr (3, [.ref q_3, .int (nI 0), .int (nI 1)])), (q_3, .inl (kA 0, 400, .inl (fun _ => 0)))] := hD
    refine lv_i2l (v := (nI 0).toInt64) hx hb dL_track_7 rfl ?_
    refine va_last hx hb hK hP hD hS 0 4 rfl rfl (vp_in_nI (n := 0) (by omega) (by decide)) dL_track_8 (fun H locs hP hD hS => ?_)
    rw [nI_clamp (n := 0) (by omega)] at hP hD
    have hP : va_P D vwCl [(o, .inl (kA 4, 1, .inr (.inl (vp_updL g 0 (nI 0).toInt64)))), (h0, .inr (7, [.ref a, .int (nI 1), .int (nI 8), .int (nI 0), .int (nI 0), .int (nI 0), .int (nI 0)])), (a, .inl (kA 2, 4, .inr (.inr (.inr (.inr (va_up (fun _ => none) 0 (some tr_1))))))), (tr_1, .inr (5, [.ref su_1, .ref vo_1, .ref fp_1, .ref fg_1, .ref t_1, .ref t_2, .ref t_3, .int (nI n), .int (nI 0), .int (nI 0), .int (nI 0), .int (nI 0)])), (su_1, .inr (4, [.ref s_1, .ref s_2, .ref s_3, .ref s_4, .int (nI 0), .int (nI 0)])), (s_1, .inl (kA 0, 400, .inl (fun _ => 0))), (s_2, .inl (kA 0, 400, .inl (fun _ => 0))), (s_3, .inl (kA 1, 400, .inl (fun _ => 0))), (s_4, .inl (kA 0, 400, .inl (fun _ => 0))), (vo_1, .inr (3, [.ref v_1, .int (nI 0), .int (nI 1)])), (v_1, .inl (kA 0, 400, .inl (fun _ => 0))), (fp_1, .inr (2, [.int (nI 1), .ref p_1, .ref p_2, .int (nI 0), .int (nI 0), .int (nI 0), .int (nI 0), .int (nI 0), .int (nI 0)])), (p_1, .inl (kA 0, 72, .inl (fun _ => 0))), (p_2, .inl (kA 0, 8, .inl (fun _ => 0))), (fg_1, .inr (2, [.int (nI 2), .ref g_1, .ref g_2, .int (nI 0), .int (nI 0), .int (nI 0), .int (nI 0), .int (nI 0), .int (nI 0)])), (g_1, .inl (kA 0, 72, .inl (fun _ => 0))), (g_2, .inl (kA 0, 8, .inl (fun _ => 0))), (t_1, .inr (6, [.ref r_1, .double 4620693217682128896])), (r_1, .inr (3, [.ref q_1, .int (nI 0), .int (nI 1)])), (q_1, .inl (kA 0, 400, .inl (fun _ => 0))), (t_2, .inr (6, [.ref r_2, .double 4620693217682128896])), (r_2, .inr (3, [.ref q_2, .int (nI 0), .int (nI 1)])), (q_2, .inl (kA 0, 400, .inl (fun _ => 0))), (t_3, .inr (6, [.ref r_3, .double 4620693217682128896])), (r_3, .inr (3, [.ref q_3, .int (nI 0), .int (nI 1)])), (q_3, .inl (kA 0, 400, .inl (fun _ => 0)))] H := hP
    have hD : va_D A [(o, .inl (kA 4, 1, .inr (.inl (vp_updL g 0 (nI 0).toInt64)))), (h0, .inr (7, [.ref a, .int (nI 1), .int (nI 8), .int (nI 0), .int (nI 0), .int (nI 0), .int (nI 0)])), (a, .inl (kA 2, 4, .inr (.inr (.inr (.inr (va_up (fun _ => none) 0 (some tr_1))))))), (tr_1, .inr (5, [.ref su_1, .ref vo_1, .ref fp_1, .ref fg_1, .ref t_1, .ref t_2, .ref t_3, .int (nI n), .int (nI 0), .int (nI 0), .int (nI 0), .int (nI 0)])), (su_1, .inr (4, [.ref s_1, .ref s_2, .ref s_3, .ref s_4, .int (nI 0), .int (nI 0)])), (s_1, .inl (kA 0, 400, .inl (fun _ => 0))), (s_2, .inl (kA 0, 400, .inl (fun _ => 0))), (s_3, .inl (kA 1, 400, .inl (fun _ => 0))), (s_4, .inl (kA 0, 400, .inl (fun _ => 0))), (vo_1, .inr (3, [.ref v_1, .int (nI 0), .int (nI 1)])), (v_1, .inl (kA 0, 400, .inl (fun _ => 0))), (fp_1, .inr (2, [.int (nI 1), .ref p_1, .ref p_2, .int (nI 0), .int (nI 0), .int (nI 0), .int (nI 0), .int (nI 0), .int (nI 0)])), (p_1, .inl (kA 0, 72, .inl (fun _ => 0))), (p_2, .inl (kA 0, 8, .inl (fun _ => 0))), (fg_1, .inr (2, [.int (nI 2), .ref g_1, .ref g_2, .int (nI 0), .int (nI 0), .int (nI 0), .int (nI 0), .int (nI 0), .int (nI 0)])), (g_1, .inl (kA 0, 72, .inl (fun _ => 0))), (g_2, .inl (kA 0, 8, .inl (fun _ => 0))), (t_1, .inr (6, [.ref r_1, .double 4620693217682128896])), (r_1, .inr (3, [.ref q_1, .int (nI 0), .int (nI 1)])), (q_1, .inl (kA 0, 400, .inl (fun _ => 0))), (t_2, .inr (6, [.ref r_2, .double 4620693217682128896])), (r_2, .inr (3, [.ref q_2, .int (nI 0), .int (nI 1)])), (q_2, .inl (kA 0, 400, .inl (fun _ => 0))), (t_3, .inr (6, [.ref r_3, .double 4620693217682128896])), (r_3, .inr (3, [.ref q_3, .int (nI 0), .int (nI 1)])), (q_3, .inl (kA 0, 400, .inl (fun _ => 0)))] := hD
    refine lv_goto (tgt := 18) hx hb dL_track_9 (by decide) ?_
    refine lv_iconst (v := nI 0) hx hb dL_track_18 (by decide) ?_
    have hP := hP.sub (ws' := [(h0, .inr (7, [.ref a, .int (nI 1), .int (nI 8), .int (nI 0), .int (nI 0), .int (nI 0), .int (nI 0)])), (a, .inl (kA 2, 4, .inr (.inr (.inr (.inr (va_up (fun _ => none) 0 (some tr_1))))))), (tr_1, .inr (5, [.ref su_1, .ref vo_1, .ref fp_1, .ref fg_1, .ref t_1, .ref t_2, .ref t_3, .int (nI n), .int (nI 0), .int (nI 0), .int (nI 0), .int (nI 0)])), (su_1, .inr (4, [.ref s_1, .ref s_2, .ref s_3, .ref s_4, .int (nI 0), .int (nI 0)])), (s_1, .inl (kA 0, 400, .inl (fun _ => 0))), (s_2, .inl (kA 0, 400, .inl (fun _ => 0))), (s_3, .inl (kA 1, 400, .inl (fun _ => 0))), (s_4, .inl (kA 0, 400, .inl (fun _ => 0))), (vo_1, .inr (3, [.ref v_1, .int (nI 0), .int (nI 1)])), (v_1, .inl (kA 0, 400, .inl (fun _ => 0))), (fp_1, .inr (2, [.int (nI 1), .ref p_1, .ref p_2, .int (nI 0), .int (nI 0), .int (nI 0), .int (nI 0), .int (nI 0), .int (nI 0)])), (p_1, .inl (kA 0, 72, .inl (fun _ => 0))), (p_2, .inl (kA 0, 8, .inl (fun _ => 0))), (fg_1, .inr (2, [.int (nI 2), .ref g_1, .ref g_2, .int (nI 0), .int (nI 0), .int (nI 0), .int (nI 0), .int (nI 0), .int (nI 0)])), (g_1, .inl (kA 0, 72, .inl (fun _ => 0))), (g_2, .inl (kA 0, 8, .inl (fun _ => 0))), (t_1, .inr (6, [.ref r_1, .double 4620693217682128896])), (r_1, .inr (3, [.ref q_1, .int (nI 0), .int (nI 1)])), (q_1, .inl (kA 0, 400, .inl (fun _ => 0))), (t_2, .inr (6, [.ref r_2, .double 4620693217682128896])), (r_2, .inr (3, [.ref q_2, .int (nI 0), .int (nI 1)])), (q_2, .inl (kA 0, 400, .inl (fun _ => 0))), (t_3, .inr (6, [.ref r_3, .double 4620693217682128896])), (r_3, .inr (3, [.ref q_3, .int (nI 0), .int (nI 1)])), (q_3, .inl (kA 0, 400, .inl (fun _ => 0))), (o, .inl (kA 4, 1, .inr (.inl (vp_updL g 0 (nI 0).toInt64))))]) [1, 2, 3, 4, 5, 6, 7, 8, 9, 10, 11, 12, 13, 14, 15, 16, 17, 18, 19, 20, 21, 22, 23, 24, 25, 0] rfl
    have hD := hD.sub (ws' := [(h0, .inr (7, [.ref a, .int (nI 1), .int (nI 8), .int (nI 0), .int (nI 0), .int (nI 0), .int (nI 0)])), (a, .inl (kA 2, 4, .inr (.inr (.inr (.inr (va_up (fun _ => none) 0 (some tr_1))))))), (tr_1, .inr (5, [.ref su_1, .ref vo_1, .ref fp_1, .ref fg_1, .ref t_1, .ref t_2, .ref t_3, .int (nI n), .int (nI 0), .int (nI 0), .int (nI 0), .int (nI 0)])), (su_1, .inr (4, [.ref s_1, .ref s_2, .ref s_3, .ref s_4, .int (nI 0), .int (nI 0)])), (s_1, .inl (kA 0, 400, .inl (fun _ => 0))), (s_2, .inl (kA 0, 400, .inl (fun _ => 0))), (s_3, .inl (kA 1, 400, .inl (fun _ => 0))), (s_4, .inl (kA 0, 400, .inl (fun _ => 0))), (vo_1, .inr (3, [.ref v_1, .int (nI 0), .int (nI 1)])), (v_1, .inl (kA 0, 400, .inl (fun _ => 0))), (fp_1, .inr (2, [.int (nI 1), .ref p_1, .ref p_2, .int (nI 0), .int (nI 0), .int (nI 0), .int (nI 0), .int (nI 0), .int (nI 0)])), (p_1, .inl (kA 0, 72, .inl (fun _ => 0))), (p_2, .inl (kA 0, 8, .inl (fun _ => 0))), (fg_1, .inr (2, [.int (nI 2), .ref g_1, .ref g_2, .int (nI 0), .int (nI 0), .int (nI 0), .int (nI 0), .int (nI 0), .int (nI 0)])), (g_1, .inl (kA 0, 72, .inl (fun _ => 0))), (g_2, .inl (kA 0, 8, .inl (fun _ => 0))), (t_1, .inr (6, [.ref r_1, .double 4620693217682128896])), (r_1, .inr (3, [.ref q_1, .int (nI 0), .int (nI 1)])), (q_1, .inl (kA 0, 400, .inl (fun _ => 0))), (t_2, .inr (6, [.ref r_2, .double 4620693217682128896])), (r_2, .inr (3, [.ref q_2, .int (nI 0), .int (nI 1)])), (q_2, .inl (kA 0, 400, .inl (fun _ => 0))), (t_3, .inr (6, [.ref r_3, .double 4620693217682128896])), (r_3, .inr (3, [.ref q_3, .int (nI 0), .int (nI 1)])), (q_3, .inl (kA 0, 400, .inl (fun _ => 0))), (o, .inl (kA 4, 1, .inr (.inl (vp_updL g 0 (nI 0).toInt64))))]) [1, 2, 3, 4, 5, 6, 7, 8, 9, 10, 11, 12, 13, 14, 15, 16, 17, 18, 19, 20, 21, 22, 23, 24, 25, 0] (by decide) rfl
    exact endI hx hb hr hlocks hK hP hD hS (⟨tr_1, su_1, vo_1, fp_1, fg_1, t_1, t_2, t_3, s_1, s_2, s_3, s_4, v_1, p_1, p_2, g_1, g_2, r_1, q_1, r_2, q_2, r_3, q_3, rfl, by first | rfl | assumption | omega | (rw [if_pos (by omega)]; first | done | rfl) | (rw [if_neg (by omega)]; first | done | rfl)⟩) (Nat.le_of_ble_eq_true rfl) (Nat.le_of_ble_eq_true rfl) dL_track_19

def wq_L_track_no : List Cond := .codeWith yL_track cL_track 4 (some .int) [(0, 9, 12, 13), (0, 9, 15, 15)] :: (([.methodLink RL 7 yX6_track, .instanceMethod yX6_track, .selects RX6 yX6_track yX6_track, .initialized RX6, .classLink RL 13 "java/lang/IllegalArgumentException"] : List Cond) ++ (wq_X6_track_e ++ ([] : List Cond)))
theorem gd_L_track_no : wq_L_track_no.all goodWord = true := by decide +kernel
theorem h_L_track_no_0 : GoodIn wq_L_track_no (wsV RL 7 RX6 yX6_track wq_X6_track_e) := goodIn_app (goodIn_r _ [1, 2, 3, 4] (by decide +kernel) (by decide +kernel)) (goodIn_sub (fun w h => List.mem_cons_of_mem _ (List.mem_append_right _ (List.mem_append_left _ h))) gd_X6_track_e)
set_option maxHeartbeats 4000000 in
set_option maxRecDepth 100000 in
theorem c_L_track_no (l : Launch) (D : va_G) (kA : Nat → ClassId) (z : Nat) (hfl : l.stackTraces = false) (h0 a o : Nat) (x : Int32) (g : Nat → Int64) (hxx : ∀ n : Nat, n ≤ 2 → x ≠ nI n) : mI l D (tyL kA) z yL_track wq_L_track_no ({ frames := 8, cells := 24, slots := 3424, locals := 142 }) [.ref h0, .int x, .ref o] [(h0, .inr (7, [.ref a, .int (nI 0), .int (nI 8), .int (nI 0), .int (nI 0), .int (nI 0), .int (nI 0)])), (a, .inl (kA 2, 4, .inr (.inr (.inr (.inr (fun _ => none)))))), (o, .inl (kA 4, 1, .inr (.inl g)))] (fun r w => w = [(h0, .inr (7, [.ref a, .int (nI 0), .int (nI 8), .int (nI 0), .int (nI 0), .int (nI 0), .int (nI 0)])), (a, .inl (kA 2, 4, .inr (.inr (.inr (.inr (fun _ => none)))))), (o, .inl (kA 4, 1, .inr (.inl g)))] ∧ r = nI 1) := by
  refine ofWI (cc := cL_track) (maxL := 4) RL rfl (by decide +kernel) rfl (Nat.le_of_ble_eq_true rfl) ?_
  intro p e s m args below meth c A ls htab hE
  obtain ⟨hx, hb, hr, hml, hts, hown, hlocks, hA, hS, hP, hK, hD, hG, hl⟩ := hE
  have hl : lv_has ls 4 [(0, .ref h0), (1, .int x), (2, .ref o)] := hl
  have hH : s.heap = s.heap := rfl
  refine lv_aload_n hx hb dL_track_0 rfl (lv_at hl 2 rfl) ?_
  refine lv_iconst (v := nI 0) hx hb dL_track_1 (by decide) ?_
  refine lv_aload_n hx hb dL_track_2 rfl (lv_at hl 0 rfl) ?_
  refine lv_iload_n hx hb dL_track_3 rfl (lv_at hl 1 rfl) ?_
  have hF := va_free (wc := [(h0, .inr (7, [.ref a, .int (nI 0), .int (nI 8), .int (nI 0), .int (nI 0), .int (nI 0), .int (nI 0)])), (a, .inl (kA 2, 4, .inr (.inr (.inr (.inr (fun _ => none))))))]) hD hS hA [0, 1] rfl
  refine vx_calli (vx_runV (As := [.int x]) (rest := [.int (nI 0), .ref o]) ⟨hx, hb, hml, hown, hts⟩ (c_X6_track_e l D kA z hfl h0 a x  _) (cwV 1 hts h_L_track_no_0 rfl rfl rfl (by decide +kernel) ⟨Nat.le_of_ble_eq_true rfl, Nat.le_of_ble_eq_true rfl⟩) (fPv hK hP hD hS hG hF [0, 1] (by decide) rfl 0 7 rfl rfl rfl) rfl rfl hl.1 rfl (lv_room (Nat.le_of_ble_eq_true rfl)) dL_track_4 ⟨Nat.le_of_ble_eq_true rfl, Nat.le_of_ble_eq_true rfl⟩) hS (fun q _ h => hF q h) hF (fun q _ h => hF q h) (fun E ce q9 u9 t H locs ht hvm hw hB hz1 hk1 hS hc9 hv9 hcl9 => ?_) (fun r_4 w1 t H locs ht hvm hw hB hz1 hk1 hS => ?_)
  ·
    obtain ⟨E9, w1⟩ := u9
    obtain ⟨e9, hB⟩ := hB
    have e9 : E9 = E := e9
    subst e9
    obtain ⟨hP, hD⟩ := fJ (wr := [(o, .inl (kA 4, 1, .inr (.inl g)))]) hP hD [0, 1] [2] rfl rfl (by decide) (by decide) hk1 hF ht hB
    obtain ⟨hE9, rfl⟩ := hw
    try dsimp only at hE9
    have hP : va_P D vwCl [(o, .inl (kA 4, 1, .inr (.inl g))), (h0, .inr (7, [.ref a, .int (nI 0), .int (nI 8), .int (nI 0), .int (nI 0), .int (nI 0), .int (nI 0)])), (a, .inl (kA 2, 4, .inr (.inr (.inr (.inr (fun _ => none))))))] H := hP
    have hD : va_D A [(o, .inl (kA 4, 1, .inr (.inl g))), (h0, .inr (7, [.ref a, .int (nI 0), .int (nI 8), .int (nI 0), .int (nI 0), .int (nI 0), .int (nI 0)])), (a, .inl (kA 2, 4, .inr (.inr (.inr (.inr (fun _ => none))))))] := hD
    obtain ⟨rfl, hE9⟩ := hE9
    refine vx_catch (name := "java/lang/IllegalArgumentException") hown [] ⟨0, 9, 12, 13⟩ [⟨0, 9, 15, 15⟩] (htab.trans rfl) (fun _ h => absurd h List.not_mem_nil) (by decide) (by decide) (wAt hts 5 (w := .classLink RL 13 "java/lang/IllegalArgumentException") rfl) (va_Nw.use rfl (hG.2.2.2.1.2.2.2.1 _ (List.mem_of_getElem? (i := 17) rfl))) hc9 hv9 hcl9 ?_
    refine lv_astore_n (lv' := [(3, .ref q9), (0, .ref h0), (1, .int x), (2, .ref o)]) hx hb dL_track_12 rfl hl (by decide) rfl (fun ls hl => ?_)
    refine lv_iconst (v := nI 1) hx hb dL_track_13 (by decide) ?_
    have hP := hP.sub (ws' := [(h0, .inr (7, [.ref a, .int (nI 0), .int (nI 8), .int (nI 0), .int (nI 0), .int (nI 0), .int (nI 0)])), (a, .inl (kA 2, 4, .inr (.inr (.inr (.inr (fun _ => none)))))), (o, .inl (kA 4, 1, .inr (.inl g)))]) [1, 2, 0] rfl
    have hD := hD.sub (ws' := [(h0, .inr (7, [.ref a, .int (nI 0), .int (nI 8), .int (nI 0), .int (nI 0), .int (nI 0), .int (nI 0)])), (a, .inl (kA 2, 4, .inr (.inr (.inr (.inr (fun _ => none)))))), (o, .inl (kA 4, 1, .inr (.inl g)))]) [1, 2, 0] (by decide) rfl
    exact endI hx hb hr hlocks hK hP hD hS (⟨rfl, by first | rfl | assumption | omega | (rw [if_pos (by omega)]; first | done | rfl) | (rw [if_neg (by omega)]; first | done | rfl)⟩) (Nat.le_of_ble_eq_true rfl) (Nat.le_of_ble_eq_true rfl) dL_track_14
  ·
    try dsimp only at hw
    obtain ⟨p9_0, p9_1, p9_2, p9_3, p9_4, p9_5, p9_6, p9_7, p9_8, p9_9, p9_10, p9_11, p9_12, p9_13, p9_14, p9_15, p9_16, p9_17, p9_18, p9_19, p9_20, p9_21, p9_22, p9_23, -, f9_0, f9_1, f9_2⟩ := hw
    exact (hxx p9_0 f9_0 f9_1).elim

def wq_L_many_ok : List Cond := .codeWith yL_many cL_many 4 (some .int) [(0, 9, 12, 13)] :: (([.methodLink RL 73 yX6_many, .instanceMethod yX6_many, .selects RX6 yX6_many yX6_many, .initialized RX6] : List Cond) ++ (wq_X6_many_e ++ ([] : List Cond)))
theorem gd_L_many_ok : wq_L_many_ok.all goodWord = true := by decide +kernel
theorem h_L_many_ok_0 : GoodIn wq_L_many_ok (wsV RL 73 RX6 yX6_many wq_X6_many_e) := goodIn_app (goodIn_r _ [1, 2, 3, 4] (by decide +kernel) (by decide +kernel)) (goodIn_sub (fun w h => List.mem_cons_of_mem _ (List.mem_append_right _ (List.mem_append_left _ h))) gd_X6_many_e)
set_option maxHeartbeats 4000000 in
set_option maxRecDepth 100000 in
theorem c_L_many_ok (l : Launch) (D : va_G) (kA : Nat → ClassId) (z : Nat) (hfl : l.stackTraces = false) (h0 a o n : Nat) (g : Nat → Int64) (h2 : n ≤ 6) : mI l D (tyL kA) z yL_many wq_L_many_ok ({ frames := 8, cells := 1, slots := 6, locals := 141 }) [.ref h0, .int (nI n), .ref o] [(h0, .inr (7, [.ref a, .int (nI 0), .int (nI 8), .int (nI 0), .int (nI 0), .int (nI 0), .int (nI 0)])), (a, .inl (kA 2, 4, .inr (.inr (.inr (.inr (fun _ => none)))))), (o, .inl (kA 4, 1, .inr (.inl g)))] (fun r w => w = [(h0, .inr (7, [.ref a, .int (nI 0), .int (nI 8), .int (nI 0), .int (nI 0), .int (nI 0), .int (nI 0)])), (a, .inl (kA 2, 4, .inr (.inr (.inr (.inr (fun _ => none)))))), (o, .inl (kA 4, 1, .inr (.inl (vp_updL g 0 (nI ([0, 8, 0, 0, 0, 0, 0].getD n 0)).toInt64))))] ∧ r = nI 0) := by
  refine ofWI (cc := cL_many) (maxL := 4) RL rfl (by decide +kernel) rfl (Nat.le_of_ble_eq_true rfl) ?_
  intro p e s m args below meth c A ls htab hE
  obtain ⟨hx, hb, hr, hml, hts, hown, hlocks, hA, hS, hP, hK, hD, hG, hl⟩ := hE
  have hl : lv_has ls 4 [(0, .ref h0), (1, .int (nI n)), (2, .ref o)] := hl
  have hH : s.heap = s.heap := rfl
  refine lv_aload_n hx hb dL_many_0 rfl (lv_at hl 2 rfl) ?_
  refine lv_iconst (v := nI 0) hx hb dL_many_1 (by decide) ?_
  refine lv_aload_n hx hb dL_many_2 rfl (lv_at hl 0 rfl) ?_
  refine lv_iload_n hx hb dL_many_3 rfl (lv_at hl 1 rfl) ?_
  have hF := va_free (wc := [(h0, .inr (7, [.ref a, .int (nI 0), .int (nI 8), .int (nI 0), .int (nI 0), .int (nI 0), .int (nI 0)])), (a, .inl (kA 2, 4, .inr (.inr (.inr (.inr (fun _ => none))))))]) hD hS hA [0, 1] rfl
  refine vx_calli (vx_runV (As := [.int (nI n)]) (rest := [.int (nI 0), .ref o]) ⟨hx, hb, hml, hown, hts⟩ (c_X6_many_e l D kA z hfl h0 a (nI n)  _) (cwV 1 hts h_L_many_ok_0 rfl rfl rfl (by decide +kernel) ⟨Nat.le_of_ble_eq_true rfl, Nat.le_of_ble_eq_true rfl⟩) (fPv hK hP hD hS hG hF [0, 1] (by decide) rfl 0 7 rfl rfl rfl) rfl rfl hl.1 rfl (lv_room (Nat.le_of_ble_eq_true rfl)) dL_many_4 ⟨Nat.le_of_ble_eq_true rfl, Nat.le_of_ble_eq_true rfl⟩) hS (fun q _ h => hF q h) hF (fun q _ h => hF q h) (fun E ce q9 u9 t H locs ht hvm hw hB hz1 hk1 hS hc9 hv9 hcl9 => ?_) (fun r_1 w1 t H locs ht hvm hw hB hz1 hk1 hS => ?_)
  ·
    obtain ⟨E9, w1⟩ := u9
    obtain ⟨e9, hB⟩ := hB
    have e9 : E9 = E := e9
    subst e9
    obtain ⟨hP, hD⟩ := fJ (wr := [(o, .inl (kA 4, 1, .inr (.inl g)))]) hP hD [0, 1] [2] rfl rfl (by decide) (by decide) hk1 hF ht hB
    obtain ⟨hE9, rfl⟩ := hw
    try dsimp only at hE9
    have hP : va_P D vwCl [(o, .inl (kA 4, 1, .inr (.inl g))), (h0, .inr (7, [.ref a, .int (nI 0), .int (nI 8), .int (nI 0), .int (nI 0), .int (nI 0), .int (nI 0)])), (a, .inl (kA 2, 4, .inr (.inr (.inr (.inr (fun _ => none))))))] H := hP
    have hD : va_D A [(o, .inl (kA 4, 1, .inr (.inl g))), (h0, .inr (7, [.ref a, .int (nI 0), .int (nI 8), .int (nI 0), .int (nI 0), .int (nI 0), .int (nI 0)])), (a, .inl (kA 2, 4, .inr (.inr (.inr (.inr (fun _ => none))))))] := hD
    exact (hE9.2 n h2 rfl).elim
  ·
    obtain ⟨hP, hD⟩ := fJ (wr := [(o, .inl (kA 4, 1, .inr (.inl g)))]) hP hD [0, 1] [2] rfl rfl (by decide) (by decide) hk1 hF ht hB
    try dsimp only at hw
    obtain ⟨n_1, rfl, h_1, e_1, e_2⟩ := hw
    replace e_1 := (nI_eq (a := n) (b := n_1) (by omega) (by omega)).mp e_1
    subst e_1
    replace e_2 := e_2.symm
    subst e_2
    have hP : va_P D vwCl [(o, .inl (kA 4, 1, .inr (.inl g))), (h0, .inr (7, [.ref a, .int (nI 0), .int (nI 8), .int (nI 0), .int (nI 0), .int (nI 0), .int (nI 0)])), (a, .inl (kA 2, 4, .inr (.inr (.inr (.inr (fun _ => none))))))] H := hP
    have hD : va_D A [(o, .inl (kA 4, 1, .inr (.inl g))), (h0, .inr (7, [.ref a, .int (nI 0), .int (nI 8), .int (nI 0), .int (nI 0), .int (nI 0), .int (nI 0)])), (a, .inl (kA 2, 4, .inr (.inr (.inr (.inr (fun _ => none))))))] := hD
    refine lv_i2l (v := (nI ([0, 8, 0, 0, 0, 0, 0].getD n 0)).toInt64) hx hb dL_many_7 rfl ?_
    refine va_last hx hb hK hP hD hS 0 4 rfl rfl (vp_in_nI (n := 0) (by omega) (by decide)) dL_many_8 (fun H locs hP hD hS => ?_)
    rw [nI_clamp (n := 0) (by omega)] at hP hD
    have hP : va_P D vwCl [(o, .inl (kA 4, 1, .inr (.inl (vp_updL g 0 (nI ([0, 8, 0, 0, 0, 0, 0].getD n 0)).toInt64)))), (h0, .inr (7, [.ref a, .int (nI 0), .int (nI 8), .int (nI 0), .int (nI 0), .int (nI 0), .int (nI 0)])), (a, .inl (kA 2, 4, .inr (.inr (.inr (.inr (fun _ => none))))))] H := hP
    have hD : va_D A [(o, .inl (kA 4, 1, .inr (.inl (vp_updL g 0 (nI ([0, 8, 0, 0, 0, 0, 0].getD n 0)).toInt64)))), (h0, .inr (7, [.ref a, .int (nI 0), .int (nI 8), .int (nI 0), .int (nI 0), .int (nI 0), .int (nI 0)])), (a, .inl (kA 2, 4, .inr (.inr (.inr (.inr (fun _ => none))))))] := hD
    refine lv_goto (tgt := 15) hx hb dL_many_9 (by decide) ?_
    refine lv_iconst (v := nI 0) hx hb dL_many_15 (by decide) ?_
    have hP := hP.sub (ws' := [(h0, .inr (7, [.ref a, .int (nI 0), .int (nI 8), .int (nI 0), .int (nI 0), .int (nI 0), .int (nI 0)])), (a, .inl (kA 2, 4, .inr (.inr (.inr (.inr (fun _ => none)))))), (o, .inl (kA 4, 1, .inr (.inl (vp_updL g 0 (nI ([0, 8, 0, 0, 0, 0, 0].getD n 0)).toInt64))))]) [1, 2, 0] rfl
    have hD := hD.sub (ws' := [(h0, .inr (7, [.ref a, .int (nI 0), .int (nI 8), .int (nI 0), .int (nI 0), .int (nI 0), .int (nI 0)])), (a, .inl (kA 2, 4, .inr (.inr (.inr (.inr (fun _ => none)))))), (o, .inl (kA 4, 1, .inr (.inl (vp_updL g 0 (nI ([0, 8, 0, 0, 0, 0, 0].getD n 0)).toInt64))))]) [1, 2, 0] (by decide) rfl
    exact endI hx hb hr hlocks hK hP hD hS (⟨rfl, by first | rfl | assumption | omega | (rw [if_pos (by omega)]; first | done | rfl) | (rw [if_neg (by omega)]; first | done | rfl)⟩) (Nat.le_of_ble_eq_true rfl) (Nat.le_of_ble_eq_true rfl) dL_many_16

def wq_L_many_no : List Cond := .codeWith yL_many cL_many 4 (some .int) [(0, 9, 12, 13)] :: (([.methodLink RL 73 yX6_many, .instanceMethod yX6_many, .selects RX6 yX6_many yX6_many, .initialized RX6, .classLink RL 13 "java/lang/IllegalArgumentException"] : List Cond) ++ (wq_X6_many_e ++ ([] : List Cond)))
theorem gd_L_many_no : wq_L_many_no.all goodWord = true := by decide +kernel
theorem h_L_many_no_0 : GoodIn wq_L_many_no (wsV RL 73 RX6 yX6_many wq_X6_many_e) := goodIn_app (goodIn_r _ [1, 2, 3, 4] (by decide +kernel) (by decide +kernel)) (goodIn_sub (fun w h => List.mem_cons_of_mem _ (List.mem_append_right _ (List.mem_append_left _ h))) gd_X6_many_e)
set_option maxHeartbeats 4000000 in
set_option maxRecDepth 100000 in
theorem c_L_many_no (l : Launch) (D : va_G) (kA : Nat → ClassId) (z : Nat) (hfl : l.stackTraces = false) (h0 a o : Nat) (x : Int32) (g : Nat → Int64) (hxx : ∀ n : Nat, n ≤ 6 → x ≠ nI n) : mI l D (tyL kA) z yL_many wq_L_many_no ({ frames := 8, cells := 1, slots := 6, locals := 141 }) [.ref h0, .int x, .ref o] [(h0, .inr (7, [.ref a, .int (nI 0), .int (nI 8), .int (nI 0), .int (nI 0), .int (nI 0), .int (nI 0)])), (a, .inl (kA 2, 4, .inr (.inr (.inr (.inr (fun _ => none)))))), (o, .inl (kA 4, 1, .inr (.inl g)))] (fun r w => w = [(h0, .inr (7, [.ref a, .int (nI 0), .int (nI 8), .int (nI 0), .int (nI 0), .int (nI 0), .int (nI 0)])), (a, .inl (kA 2, 4, .inr (.inr (.inr (.inr (fun _ => none)))))), (o, .inl (kA 4, 1, .inr (.inl g)))] ∧ r = nI 1) := by
  refine ofWI (cc := cL_many) (maxL := 4) RL rfl (by decide +kernel) rfl (Nat.le_of_ble_eq_true rfl) ?_
  intro p e s m args below meth c A ls htab hE
  obtain ⟨hx, hb, hr, hml, hts, hown, hlocks, hA, hS, hP, hK, hD, hG, hl⟩ := hE
  have hl : lv_has ls 4 [(0, .ref h0), (1, .int x), (2, .ref o)] := hl
  have hH : s.heap = s.heap := rfl
  refine lv_aload_n hx hb dL_many_0 rfl (lv_at hl 2 rfl) ?_
  refine lv_iconst (v := nI 0) hx hb dL_many_1 (by decide) ?_
  refine lv_aload_n hx hb dL_many_2 rfl (lv_at hl 0 rfl) ?_
  refine lv_iload_n hx hb dL_many_3 rfl (lv_at hl 1 rfl) ?_
  have hF := va_free (wc := [(h0, .inr (7, [.ref a, .int (nI 0), .int (nI 8), .int (nI 0), .int (nI 0), .int (nI 0), .int (nI 0)])), (a, .inl (kA 2, 4, .inr (.inr (.inr (.inr (fun _ => none))))))]) hD hS hA [0, 1] rfl
  refine vx_calli (vx_runV (As := [.int x]) (rest := [.int (nI 0), .ref o]) ⟨hx, hb, hml, hown, hts⟩ (c_X6_many_e l D kA z hfl h0 a x  _) (cwV 1 hts h_L_many_no_0 rfl rfl rfl (by decide +kernel) ⟨Nat.le_of_ble_eq_true rfl, Nat.le_of_ble_eq_true rfl⟩) (fPv hK hP hD hS hG hF [0, 1] (by decide) rfl 0 7 rfl rfl rfl) rfl rfl hl.1 rfl (lv_room (Nat.le_of_ble_eq_true rfl)) dL_many_4 ⟨Nat.le_of_ble_eq_true rfl, Nat.le_of_ble_eq_true rfl⟩) hS (fun q _ h => hF q h) hF (fun q _ h => hF q h) (fun E ce q9 u9 t H locs ht hvm hw hB hz1 hk1 hS hc9 hv9 hcl9 => ?_) (fun r_1 w1 t H locs ht hvm hw hB hz1 hk1 hS => ?_)
  ·
    obtain ⟨E9, w1⟩ := u9
    obtain ⟨e9, hB⟩ := hB
    have e9 : E9 = E := e9
    subst e9
    obtain ⟨hP, hD⟩ := fJ (wr := [(o, .inl (kA 4, 1, .inr (.inl g)))]) hP hD [0, 1] [2] rfl rfl (by decide) (by decide) hk1 hF ht hB
    obtain ⟨hE9, rfl⟩ := hw
    try dsimp only at hE9
    have hP : va_P D vwCl [(o, .inl (kA 4, 1, .inr (.inl g))), (h0, .inr (7, [.ref a, .int (nI 0), .int (nI 8), .int (nI 0), .int (nI 0), .int (nI 0), .int (nI 0)])), (a, .inl (kA 2, 4, .inr (.inr (.inr (.inr (fun _ => none))))))] H := hP
    have hD : va_D A [(o, .inl (kA 4, 1, .inr (.inl g))), (h0, .inr (7, [.ref a, .int (nI 0), .int (nI 8), .int (nI 0), .int (nI 0), .int (nI 0), .int (nI 0)])), (a, .inl (kA 2, 4, .inr (.inr (.inr (.inr (fun _ => none))))))] := hD
    obtain ⟨rfl, hE9⟩ := hE9
    refine vx_catch (name := "java/lang/IllegalArgumentException") hown [] ⟨0, 9, 12, 13⟩ [] (htab.trans rfl) (fun _ h => absurd h List.not_mem_nil) (by decide) (by decide) (wAt hts 5 (w := .classLink RL 13 "java/lang/IllegalArgumentException") rfl) (va_Nw.use rfl (hG.2.2.2.1.2.2.2.1 _ (List.mem_of_getElem? (i := 17) rfl))) hc9 hv9 hcl9 ?_
    refine lv_astore_n (lv' := [(3, .ref q9), (0, .ref h0), (1, .int x), (2, .ref o)]) hx hb dL_many_12 rfl hl (by decide) rfl (fun ls hl => ?_)
    refine lv_iconst (v := nI 1) hx hb dL_many_13 (by decide) ?_
    have hP := hP.sub (ws' := [(h0, .inr (7, [.ref a, .int (nI 0), .int (nI 8), .int (nI 0), .int (nI 0), .int (nI 0), .int (nI 0)])), (a, .inl (kA 2, 4, .inr (.inr (.inr (.inr (fun _ => none)))))), (o, .inl (kA 4, 1, .inr (.inl g)))]) [1, 2, 0] rfl
    have hD := hD.sub (ws' := [(h0, .inr (7, [.ref a, .int (nI 0), .int (nI 8), .int (nI 0), .int (nI 0), .int (nI 0), .int (nI 0)])), (a, .inl (kA 2, 4, .inr (.inr (.inr (.inr (fun _ => none)))))), (o, .inl (kA 4, 1, .inr (.inl g)))]) [1, 2, 0] (by decide) rfl
    exact endI hx hb hr hlocks hK hP hD hS (⟨rfl, by first | rfl | assumption | omega | (rw [if_pos (by omega)]; first | done | rfl) | (rw [if_neg (by omega)]; first | done | rfl)⟩) (Nat.le_of_ble_eq_true rfl) (Nat.le_of_ble_eq_true rfl) dL_many_14
  ·
    try dsimp only at hw
    obtain ⟨p9_0, -, f9_0, f9_1, f9_2⟩ := hw
    exact (hxx p9_0 f9_0 f9_1).elim

