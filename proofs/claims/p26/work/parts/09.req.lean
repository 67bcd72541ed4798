def wq_X6_requireCode : List Cond := .code yX6_requireCode cX6_requireCode 1 none :: (([] : List Cond) ++ ([] : List Cond))
theorem gd_X6_requireCode : wq_X6_requireCode.all goodWord = true := by decide +kernel
set_option maxHeartbeats 4000000 in
set_option maxRecDepth 100000 in
theorem c_X6_requireCode (l : Launch) (D : va_G) (kA : Nat → ClassId) (z : Nat) (x : Nat) (hx1 : x ≤ 2) : mV l D (tyL kA) z yX6_requireCode wq_X6_requireCode ({ frames := 0, cells := 0, slots := 0, locals := 0 }) [.int (nI x)] [] (fun w => w = []) := by
  refine ofV (cc := cX6_requireCode) (maxL := 1) RX6 rfl (by decide +kernel) rfl (Nat.le_of_ble_eq_true rfl) ?_
  intro p e s m args below meth c A ls hnm hE
  obtain ⟨hx, hb, hr, hml, hts, hown, hlocks, hA, hS, hP, hK, hD, hG, hl⟩ := hE
  have hl : lv_has ls 1 [(0, .int (nI x))] := hl
  have hH : s.heap = s.heap := rfl
  refine lv_iload_n hx hb dX6_requireCode_0 rfl (lv_at hl 0 rfl) ?_
  refine lv_if_lt (tgt := 9) hx hb dX6_requireCode_1 (by decide) (fun c1 => absurd c1 (nI_pos (n := x) (by omega))) (fun _ => ?_)
  refine lv_iload_n hx hb dX6_requireCode_4 rfl (lv_at hl 0 rfl) ?_
  refine lv_iconst (v := nI 2) hx hb dX6_requireCode_5 (by decide) ?_
  refine lv_icmp_le (tgt := 20) hx hb dX6_requireCode_6 (by decide) (fun _ => ?_) (fun c6 => False.elim (by rw [qle (a := x) (b := 2) (by omega) (by omega)] at c6; omega))
  exact endV hx hb hr hlocks hK hP hD hS (rfl) (Nat.le_of_ble_eq_true rfl) (Nat.le_of_ble_eq_true rfl) dX6_requireCode_20

def wq_X6_requireByte : List Cond := .code yX6_requireByte cX6_requireByte 1 none :: (([] : List Cond) ++ ([] : List Cond))
theorem gd_X6_requireByte : wq_X6_requireByte.all goodWord = true := by decide +kernel
set_option maxHeartbeats 4000000 in
set_option maxRecDepth 100000 in
theorem c_X6_requireByte (l : Launch) (D : va_G) (kA : Nat → ClassId) (z : Nat) (x : Nat) (hx1 : x ≤ 255) : mV l D (tyL kA) z yX6_requireByte wq_X6_requireByte ({ frames := 0, cells := 0, slots := 0, locals := 0 }) [.int (nI x)] [] (fun w => w = []) := by
  refine ofV (cc := cX6_requireByte) (maxL := 1) RX6 rfl (by decide +kernel) rfl (Nat.le_of_ble_eq_true rfl) ?_
  intro p e s m args below meth c A ls hnm hE
  obtain ⟨hx, hb, hr, hml, hts, hown, hlocks, hA, hS, hP, hK, hD, hG, hl⟩ := hE
  have hl : lv_has ls 1 [(0, .int (nI x))] := hl
  have hH : s.heap = s.heap := rfl
  refine lv_iload_n hx hb dX6_requireByte_0 rfl (lv_at hl 0 rfl) ?_
  refine lv_if_lt (tgt := 11) hx hb dX6_requireByte_1 (by decide) (fun c1 => absurd c1 (nI_pos (n := x) (by omega))) (fun _ => ?_)
  refine lv_iload_n hx hb dX6_requireByte_4 rfl (lv_at hl 0 rfl) ?_
  refine lv_sipush (v := nI 255) hx hb dX6_requireByte_5 (by decide) ?_
  refine lv_icmp_le (tgt := 22) hx hb dX6_requireByte_8 (by decide) (fun _ => ?_) (fun c8 => False.elim (by rw [qle (a := x) (b := 255) (by omega) (by omega)] at c8; omega))
  exact endV hx hb hr hlocks hK hP hD hS (rfl) (Nat.le_of_ble_eq_true rfl) (Nat.le_of_ble_eq_true rfl) dX6_requireByte_22

def wq_X6_requireWhat : List Cond := .code yX6_requireWhat cX6_requireWhat 2 none :: (([] : List Cond) ++ ([] : List Cond))
theorem gd_X6_requireWhat : wq_X6_requireWhat.all goodWord = true := by decide +kernel
set_option maxHeartbeats 4000000 in
set_option maxRecDepth 100000 in
theorem c_X6_requireWhat (l : Launch) (D : va_G) (kA : Nat → ClassId) (z : Nat) (x y : Nat) (hx1 : x ≤ y) (hy1 : y < 2 ^ 31) : mV l D (tyL kA) z yX6_requireWhat wq_X6_requireWhat ({ frames := 0, cells := 0, slots := 0, locals := 0 }) [.int (nI x), .int (nI y)] [] (fun w => w = []) := by
  refine ofV (cc := cX6_requireWhat) (maxL := 2) RX6 rfl (by decide +kernel) rfl (Nat.le_of_ble_eq_true rfl) ?_
  intro p e s m args below meth c A ls hnm hE
  obtain ⟨hx, hb, hr, hml, hts, hown, hlocks, hA, hS, hP, hK, hD, hG, hl⟩ := hE
  have hl : lv_has ls 2 [(0, .int (nI x)), (1, .int (nI y))] := hl
  have hH : s.heap = s.heap := rfl
  refine lv_iload_n hx hb dX6_requireWhat_0 rfl (lv_at hl 0 rfl) ?_
  refine lv_if_lt (tgt := 9) hx hb dX6_requireWhat_1 (by decide) (fun c1 => absurd c1 (nI_pos (n := x) (by omega))) (fun _ => ?_)
  refine lv_iload_n hx hb dX6_requireWhat_4 rfl (lv_at hl 0 rfl) ?_
  refine lv_iload_n hx hb dX6_requireWhat_5 rfl (lv_at hl 1 rfl) ?_
  refine lv_icmp_le (tgt := 20) hx hb dX6_requireWhat_6 (by decide) (fun _ => ?_) (fun c6 => False.elim (by rw [qle (a := x) (b := y) (by omega) (by omega)] at c6; omega))
  exact endV hx hb hr hlocks hK hP hD hS (rfl) (Nat.le_of_ble_eq_true rfl) (Nat.le_of_ble_eq_true rfl) dX6_requireWhat_20

def wq_X6_requirePlace : List Cond := .code yX6_requirePlace cX6_requirePlace 2 none :: (([.methodLink RX6 289 yX3_hasPlace, .instanceMethod yX3_hasPlace, .selects RX3 yX3_hasPlace yX3_hasPlace, .initialized RX3] : List Cond) ++ (wq_X3_hasPlace_in ++ ([] : List Cond)))
theorem gd_X6_requirePlace : wq_X6_requirePlace.all goodWord = true := by decide +kernel
theorem h_X6_requirePlace_0 : GoodIn wq_X6_requirePlace (wsV RX6 289 RX3 yX3_hasPlace wq_X3_hasPlace_in) := goodIn_app (goodIn_r _ [1, 2, 3, 4] (by decide +kernel) (by decide +kernel)) (goodIn_sub (fun w h => List.mem_cons_of_mem _ (List.mem_append_right _ (List.mem_append_left _ h))) gd_X3_hasPlace_in)
set_option maxHeartbeats 4000000 in
set_option maxRecDepth 100000 in
theorem c_X6_requirePlace (l : Launch) (D : va_G) (kA : Nat → ClassId) (z : Nat) (su a1 a2 a3 a4 n i : Nat) (ah : Int32) (h1 : n ≤ 400) (hi : i < n) : mV l D (tyL kA) z yX6_requirePlace wq_X6_requirePlace ({ frames := 1, cells := 0, slots := 0, locals := 21 }) [.ref su, .int (nI i)] [(su, .inr (2, [.ref a1, .ref a2, .ref a3, .ref a4, .int (nI n), .int ah]))] (fun w => w = [(su, .inr (2, [.ref a1, .ref a2, .ref a3, .ref a4, .int (nI n), .int ah]))]) := by
  refine ofV (cc := cX6_requirePlace) (maxL := 2) RX6 rfl (by decide +kernel) rfl (Nat.le_of_ble_eq_true rfl) ?_
  intro p e s m args below meth c A ls hnm hE
  obtain ⟨hx, hb, hr, hml, hts, hown, hlocks, hA, hS, hP, hK, hD, hG, hl⟩ := hE
  have hl : lv_has ls 2 [(0, .ref su), (1, .int (nI i))] := hl
  have hH : s.heap = s.heap := rfl
  refine lv_aload_n hx hb dX6_requirePlace_0 rfl (lv_at hl 0 rfl) ?_
  refine lv_iload_n hx hb dX6_requirePlace_1 rfl (lv_at hl 1 rfl) ?_
  have hF := va_free (wc := [(su, .inr (2, [.ref a1, .ref a2, .ref a3, .ref a4, .int (nI n), .int ah]))]) hD hS hA [0] rfl
  refine va_calli (va_runV (As := [.int (nI i)]) (rest := []) ⟨hx, hb, hml, hown, hts⟩ (c_X3_hasPlace_in l D kA z su a1 a2 a3 a4 n ah i (by first | assumption | omega) (by first | assumption | omega) _) (cwV 1 hts h_X6_requirePlace_0 rfl rfl rfl (by decide +kernel) ⟨Nat.le_of_ble_eq_true rfl, Nat.le_of_ble_eq_true rfl⟩) (fPv hK hP hD hS hG hF [0] (by decide) rfl 0 2 rfl rfl rfl) rfl rfl hl.1 rfl (lv_room (Nat.le_of_ble_eq_true rfl)) dX6_requirePlace_2 ⟨Nat.le_of_ble_eq_true rfl, Nat.le_of_ble_eq_true rfl⟩) hS (fun q _ h => hF q h) hF (fun r_1 w1 t H locs ht hvm hw hB hz1 hk1 hS => ?_)
  obtain ⟨hP, hD⟩ := fJ (wr := []) hP hD [0] [] rfl rfl (by decide) (by decide) hk1 hF ht hB
  try dsimp only at hw
  obtain ⟨rfl, e_1⟩ := hw
  replace e_1 := e_1.symm
  subst e_1
  have hP : va_P D vwCl [(su, .inr (2, [.ref a1, .ref a2, .ref a3, .ref a4, .int (nI n), .int ah]))] H := hP
  have hD : va_D A [(su, .inr (2, [.ref a1, .ref a2, .ref a3, .ref a4, .int (nI n), .int ah]))] := hD
  refine lv_if_ne (tgt := 19) hx hb dX6_requirePlace_5 (by decide) (fun _ => ?_) (fun c5 => False.elim (by rw [qz (a := 1) (by omega)] at c5; omega))
  exact endV hx hb hr hlocks hK hP hD hS (rfl) (Nat.le_of_ble_eq_true rfl) (Nat.le_of_ble_eq_true rfl) dX6_requirePlace_19

def wq_X6_requireRoom_ok : List Cond := .code yX6_requireRoom cX6_requireRoom 2 none :: (([.fieldLink RX6 72 "FluxBench$Track" "surface" "LFluxBench$Surface;", .methodLink RX6 300 yX3_hasRoomFor, .instanceMethod yX3_hasRoomFor, .selects RX3 yX3_hasRoomFor yX3_hasRoomFor, .initialized RX3] : List Cond) ++ (u_ws RX4 TX4 12 ++ (wq_X3_hasRoomFor ++ ([] : List Cond))))
theorem gd_X6_requireRoom_ok : wq_X6_requireRoom_ok.all goodWord = true := by decide +kernel
theorem n_X6_requireRoom_ok_X4 : ∀ w ∈ u_ws RX4 TX4 12, w ∈ wq_X6_requireRoom_ok := fun w h => List.mem_cons_of_mem _ (List.mem_append_right _ (List.mem_append_left _ h))
theorem h_X6_requireRoom_ok_0 : GoodIn wq_X6_requireRoom_ok (wsV RX6 300 RX3 yX3_hasRoomFor wq_X3_hasRoomFor) := goodIn_app (goodIn_r _ [2, 3, 4, 5] (by decide +kernel) (by decide +kernel)) (goodIn_sub (fun w h => List.mem_cons_of_mem _ (List.mem_append_right _ (List.mem_append_right _ (List.mem_append_left _ h)))) gd_X3_hasRoomFor)
set_option maxHeartbeats 4000000 in
set_option maxRecDepth 100000 in
theorem c_X6_requireRoom_ok (l : Launch) (D : va_G) (kA : Nat → ClassId) (z : Nat) (h0 su vo fp fg t0 t1 t2 : Nat) (cd tc un rd old : Nat) (a1 a2 a3 a4 n k : Nat) (ah : Int32) (h1 : n + k ≤ 400) : mV l D (tyL kA) z yX6_requireRoom wq_X6_requireRoom_ok ({ frames := 1, cells := 0, slots := 0, locals := 21 }) [.ref h0, .int (nI k)] [(h0, .inr (3, [.ref su, .ref vo, .ref fp, .ref fg, .ref t0, .ref t1, .ref t2, .int (nI cd), .int (nI tc), .int (nI un), .int (nI rd), .int (nI old)])), (su, .inr (2, [.ref a1, .ref a2, .ref a3, .ref a4, .int (nI n), .int ah]))] (fun w => w = [(h0, .inr (3, [.ref su, .ref vo, .ref fp, .ref fg, .ref t0, .ref t1, .ref t2, .int (nI cd), .int (nI tc), .int (nI un), .int (nI rd), .int (nI old)])), (su, .inr (2, [.ref a1, .ref a2, .ref a3, .ref a4, .int (nI n), .int ah]))]) := by
  refine ofV (cc := cX6_requireRoom) (maxL := 2) RX6 rfl (by decide +kernel) rfl (Nat.le_of_ble_eq_true rfl) ?_
  intro p e s m args below meth c A ls hnm hE
  obtain ⟨hx, hb, hr, hml, hts, hown, hlocks, hA, hS, hP, hK, hD, hG, hl⟩ := hE
  have hl : lv_has ls 2 [(0, .ref h0), (1, .int (nI k))] := hl
  have hH : s.heap = s.heap := rfl
  refine lv_aload_n hx hb dX6_requireRoom_0 rfl (lv_at hl 0 rfl) ?_
  refine va_get (D := D) (ci := 3) (v := .ref su) (C := RX4) (T := TX4) (N := 12) hx hb hts n_X6_requireRoom_ok_X4 hown hK hP 0 rfl rfl 0 (by decide) (wAt hts 1 (w := .fieldLink RX6 72 "FluxBench$Track" "surface" "LFluxBench$Surface;") rfl) (fun _ h9 => h9) rfl dX6_requireRoom_1 ?_
  refine lv_iload_n hx hb dX6_requireRoom_4 rfl (lv_at hl 1 rfl) ?_
  have hF := va_free (wc := [(su, .inr (2, [.ref a1, .ref a2, .ref a3, .ref a4, .int (nI n), .int ah]))]) hD hS hA [1] rfl
  refine va_calli (va_runV (As := [.int (nI k)]) (rest := []) ⟨hx, hb, hml, hown, hts⟩ (c_X3_hasRoomFor l D kA z su a1 a2 a3 a4 n ah k (by first | assumption | omega) (by first | assumption | omega) _) (cwV 1 hts h_X6_requireRoom_ok_0 rfl rfl rfl (by decide +kernel) ⟨Nat.le_of_ble_eq_true rfl, Nat.le_of_ble_eq_true rfl⟩) (fPv hK hP hD hS hG hF [1] (by decide) rfl 1 2 rfl rfl rfl) rfl rfl hl.1 rfl (lv_room (Nat.le_of_ble_eq_true rfl)) dX6_requireRoom_5 ⟨Nat.le_of_ble_eq_true rfl, Nat.le_of_ble_eq_true rfl⟩) hS (fun q _ h => hF q h) hF (fun r_1 w1 t H locs ht hvm hw hB hz1 hk1 hS => ?_)
  obtain ⟨hP, hD⟩ := fJ (wr := [(h0, .inr (3, [.ref su, .ref vo, .ref fp, .ref fg, .ref t0, .ref t1, .ref t2, .int (nI cd), .int (nI tc), .int (nI un), .int (nI rd), .int (nI old)]))]) hP hD [1] [0] rfl rfl (by decide) (by decide) hk1 hF ht hB
  try dsimp only at hw
  obtain ⟨b_1, rfl, hb_1, e_1, e_2⟩ := hw
  replace e_1 := e_1.symm
  subst e_1
  have hP : va_P D vwCl [(h0, .inr (3, [.ref su, .ref vo, .ref fp, .ref fg, .ref t0, .ref t1, .ref t2, .int (nI cd), .int (nI tc), .int (nI un), .int (nI rd), .int (nI old)])), (su, .inr (2, [.ref a1, .ref a2, .ref a3, .ref a4, .int (nI n), .int ah]))] H := hP
  have hD : va_D A [(h0, .inr (3, [.ref su, .ref vo, .ref fp, .ref fg, .ref t0, .ref t1, .ref t2, .int (nI cd), .int (nI tc), .int (nI un), .int (nI rd), .int (nI old)])), (su, .inr (2, [.ref a1, .ref a2, .ref a3, .ref a4, .int (nI n), .int ah]))] := hD
  refine lv_if_ne (tgt := 22) hx hb dX6_requireRoom_8 (by decide) (fun _ => ?_) (fun c8 => False.elim (by rw [qz (a := b_1) (by omega)] at c8; omega))
  exact endV hx hb hr hlocks hK hP hD hS (rfl) (Nat.le_of_ble_eq_true rfl) (Nat.le_of_ble_eq_true rfl) dX6_requireRoom_22

def wq_X6_requireRoom_x : List Cond := .code yX6_requireRoom cX6_requireRoom 2 none :: (([.fieldLink RX6 72 "FluxBench$Track" "surface" "LFluxBench$Surface;", .methodLink RX6 300 yX3_hasRoomFor, .instanceMethod yX3_hasRoomFor, .selects RX3 yX3_hasRoomFor yX3_hasRoomFor, .initialized RX3, .classLink RX6 38 "java/lang/IllegalStateException", .initialized "java/lang/IllegalStateException"] : List Cond) ++ (u_ws RX4 TX4 12 ++ (wq_X3_hasRoomFor ++ ((vx_atS RX6 42 "java/lang/IllegalStateException" ["java/lang/RuntimeException", "java/lang/Exception"]).filter goodWord ++ ([] : List Cond)))))
theorem gd_X6_requireRoom_x : wq_X6_requireRoom_x.all goodWord = true := by decide +kernel
theorem n_X6_requireRoom_x_X4 : ∀ w ∈ u_ws RX4 TX4 12, w ∈ wq_X6_requireRoom_x := fun w h => List.mem_cons_of_mem _ (List.mem_append_right _ (List.mem_append_left _ h))
theorem h_X6_requireRoom_x_0 : GoodIn wq_X6_requireRoom_x (wsV RX6 300 RX3 yX3_hasRoomFor wq_X3_hasRoomFor) := goodIn_app (goodIn_r _ [2, 3, 4, 5] (by decide +kernel) (by decide +kernel)) (goodIn_sub (fun w h => List.mem_cons_of_mem _ (List.mem_append_right _ (List.mem_append_right _ (List.mem_append_left _ h)))) gd_X3_hasRoomFor)
set_option maxHeartbeats 4000000 in
set_option maxRecDepth 100000 in
theorem c_X6_requireRoom_x (l : Launch) (D : va_G) (kA : Nat → ClassId) (z : Nat) (hfl : l.stackTraces = false) (h0 su vo fp fg t0 t1 t2 : Nat) (cd tc un rd old : Nat) (a1 a2 a3 a4 n k : Nat) (ah : Int32) (h1 : n ≤ 400) (hk4 : k ≤ 400) : xV l D (tyL kA) z yX6_requireRoom wq_X6_requireRoom_x ({ frames := 6, cells := 1, slots := 6, locals := 90 }) [.ref h0, .int (nI k)] [(h0, .inr (3, [.ref su, .ref vo, .ref fp, .ref fg, .ref t0, .ref t1, .ref t2, .int (nI cd), .int (nI tc), .int (nI un), .int (nI rd), .int (nI old)])), (su, .inr (2, [.ref a1, .ref a2, .ref a3, .ref a4, .int (nI n), .int ah]))] (fun w => w = [(h0, .inr (3, [.ref su, .ref vo, .ref fp, .ref fg, .ref t0, .ref t1, .ref t2, .int (nI cd), .int (nI tc), .int (nI un), .int (nI rd), .int (nI old)])), (su, .inr (2, [.ref a1, .ref a2, .ref a3, .ref a4, .int (nI n), .int ah]))] ∧ (n + k ≤ 400)) (fun E w => (E = "java/lang/IllegalStateException") ∧ w = [(h0, .inr (3, [.ref su, .ref vo, .ref fp, .ref fg, .ref t0, .ref t1, .ref t2, .int (nI cd), .int (nI tc), .int (nI un), .int (nI rd), .int (nI old)])), (su, .inr (2, [.ref a1, .ref a2, .ref a3, .ref a4, .int (nI n), .int ah]))]) := by
  refine ofxV (cc := cX6_requireRoom) (maxL := 2) RX6 rfl (by decide +kernel) rfl (Nat.le_of_ble_eq_true rfl) ?_
  intro p e s m args below meth c A ls hxt hE
  obtain ⟨hx, hb, hr, hml, hts, hown, hlocks, hA, hS, hP, hK, hD, hG, hl⟩ := hE
  have hl : lv_has ls 2 [(0, .ref h0), (1, .int (nI k))] := hl
  have hH : s.heap = s.heap := rfl
  refine lv_aload_n hx hb dX6_requireRoom_0 rfl (lv_at hl 0 rfl) ?_
  refine va_get (D := D) (ci := 3) (v := .ref su) (C := RX4) (T := TX4) (N := 12) hx hb hts n_X6_requireRoom_x_X4 hown hK hP 0 rfl rfl 0 (by decide) (wAt hts 1 (w := .fieldLink RX6 72 "FluxBench$Track" "surface" "LFluxBench$Surface;") rfl) (fun _ h9 => h9) rfl dX6_requireRoom_1 ?_
  refine lv_iload_n hx hb dX6_requireRoom_4 rfl (lv_at hl 1 rfl) ?_
  have hF := va_free (wc := [(su, .inr (2, [.ref a1, .ref a2, .ref a3, .ref a4, .int (nI n), .int ah]))]) hD hS hA [1] rfl
  refine va_calli (va_runV (As := [.int (nI k)]) (rest := []) ⟨hx, hb, hml, hown, hts⟩ (c_X3_hasRoomFor l D kA z su a1 a2 a3 a4 n ah k (by first | assumption | omega) (by first | assumption | omega) _) (cwV 1 hts h_X6_requireRoom_x_0 rfl rfl rfl (by decide +kernel) ⟨Nat.le_of_ble_eq_true rfl, Nat.le_of_ble_eq_true rfl⟩) (fPv hK hP hD hS hG hF [1] (by decide) rfl 1 2 rfl rfl rfl) rfl rfl hl.1 rfl (lv_room (Nat.le_of_ble_eq_true rfl)) dX6_requireRoom_5 ⟨Nat.le_of_ble_eq_true rfl, Nat.le_of_ble_eq_true rfl⟩) hS (fun q _ h => hF q h) hF (fun r_1 w1 t H locs ht hvm hw hB hz1 hk1 hS => ?_)
  obtain ⟨hP, hD⟩ := fJ (wr := [(h0, .inr (3, [.ref su, .ref vo, .ref fp, .ref fg, .ref t0, .ref t1, .ref t2, .int (nI cd), .int (nI tc), .int (nI un), .int (nI rd), .int (nI old)]))]) hP hD [1] [0] rfl rfl (by decide) (by decide) hk1 hF ht hB
  try dsimp only at hw
  obtain ⟨b_1, rfl, hb_1, e_1, e_2⟩ := hw
  replace e_1 := e_1.symm
  subst e_1
  have hP : va_P D vwCl [(h0, .inr (3, [.ref su, .ref vo, .ref fp, .ref fg, .ref t0, .ref t1, .ref t2, .int (nI cd), .int (nI tc), .int (nI un), .int (nI rd), .int (nI old)])), (su, .inr (2, [.ref a1, .ref a2, .ref a3, .ref a4, .int (nI n), .int ah]))] H := hP
  have hD : va_D A [(h0, .inr (3, [.ref su, .ref vo, .ref fp, .ref fg, .ref t0, .ref t1, .ref t2, .int (nI cd), .int (nI tc), .int (nI un), .int (nI rd), .int (nI old)])), (su, .inr (2, [.ref a1, .ref a2, .ref a3, .ref a4, .int (nI n), .int ah]))] := hD
  refine lv_if_ne (tgt := 22) hx hb dX6_requireRoom_8 (by decide) (fun c8 => ?_) (fun c8 => ?_)
  ·
    rw [qz (a := b_1) (by omega)] at c8
    refine vx_ret ?_
    exact endV hx hb hr hlocks hK hP hD hS (⟨rfl, by first | rfl | assumption | omega | (rw [if_pos (by omega)]; first | done | rfl) | (rw [if_neg (by omega)]; first | done | rfl)⟩) (Nat.le_of_ble_eq_true rfl) (Nat.le_of_ble_eq_true rfl) dX6_requireRoom_22
  ·
    rw [qz (a := b_1) (by omega)] at c8
    obtain ⟨sa9, hsa9⟩ := hG.2.2.1 _ (List.mem_of_getElem? (i := 17) rfl)
    exact vx_throwSW (own := RX6) (cls := "java/lang/IllegalStateException") (text := "the row would have more than 400 cells") (names := ["java/lang/RuntimeException", "java/lang/Exception"]) hx hb hfl hown (by decide +kernel) (by decide +kernel) (wAt hts 6 (w := .classLink RX6 38 "java/lang/IllegalStateException") rfl) (wAt hts 7 (w := .initialized "java/lang/IllegalStateException") rfl) hsa9 (exat_IllegalStateException (fun w h => hts w (List.mem_cons_of_mem _ (List.mem_append_right _ (List.mem_append_right _ (List.mem_append_right _ (List.mem_append_left _ h)))))) hG.2.2.2.1) exot_IllegalStateException hG.2.1.1 hG.2.1.2 hS (by rw [hml]; exact hl.1) dX6_requireRoom_11 dX6_requireRoom_14 dX6_requireRoom_15 dX6_requireRoom_18 dX6_requireRoom_21 (fun x9 h9 => (hxt x9 h9).elim) (by decide) (Nat.le_of_ble_eq_true rfl) (Nat.le_of_ble_eq_true rfl) (Nat.le_of_ble_eq_true rfl) hlocks (xEnd hK hP hD hS ⟨rfl, rfl⟩) hS.2.2 (Nat.le_of_ble_eq_true rfl) (Nat.le_of_ble_eq_true rfl)

def wq_X6_existing : List Cond := .code yX6_existing cX6_existing 3 (some (.object "FluxBench$Track")) :: (([.fieldLink RX6 11 "FluxBench" "tracks" "[LFluxBench$Track;"] : List Cond) ++ (u_ws RX6 TX6 7 ++ ([] : List Cond)))
theorem gd_X6_existing : wq_X6_existing.all goodWord = true := by decide +kernel
theorem n_X6_existing_X6 : ∀ w ∈ u_ws RX6 TX6 7, w ∈ wq_X6_existing := fun w h => List.mem_cons_of_mem _ (List.mem_append_right _ (List.mem_append_left _ h))
set_option maxHeartbeats 4000000 in
set_option maxRecDepth 100000 in
theorem c_X6_existing (l : Launch) (D : va_G) (kA : Nat → ClassId) (z : Nat) (be ta nt sp dw rds pcs rcs tn : Nat) (gt : Nat → Option Nat) (h0 : Nat) (htn : tn < 4) (hgt : gt tn = some h0) : mR l D (tyL kA) z yX6_existing wq_X6_existing ({ frames := 0, cells := 0, slots := 0, locals := 0 }) [.ref be, .int (nI tn)] [(be, .inr (5, [.ref ta, .int (nI nt), .int (nI sp), .int (nI dw), .int (nI rds), .int (nI pcs), .int (nI rcs)])), (ta, .inl (kA 2, 4, .inr (.inr (.inr (.inr gt)))))] (fun r w => w = [(be, .inr (5, [.ref ta, .int (nI nt), .int (nI sp), .int (nI dw), .int (nI rds), .int (nI pcs), .int (nI rcs)])), (ta, .inl (kA 2, 4, .inr (.inr (.inr (.inr gt)))))] ∧ (r = h0)) := by
  refine ofR (cc := cX6_existing) (maxL := 3) RX6 rfl (by decide +kernel) rfl (Nat.le_of_ble_eq_true rfl) ?_
  intro p e s m args below meth c A ls hE
  obtain ⟨hx, hb, hr, hml, hts, hown, hlocks, hA, hS, hP, hK, hD, hG, hl⟩ := hE
  have hl : lv_has ls 3 [(0, .ref be), (1, .int (nI tn))] := hl
  have hH : s.heap = s.heap := rfl
  refine lv_iload_n hx hb dX6_existing_0 rfl (lv_at hl 1 rfl) ?_
  refine lv_if_lt (tgt := 13) hx hb dX6_existing_1 (by decide) (fun c1 => absurd c1 (nI_pos (n := tn) (by omega))) (fun _ => ?_)
  refine lv_iload_n hx hb dX6_existing_4 rfl (lv_at hl 1 rfl) ?_
  refine lv_aload_n hx hb dX6_existing_5 rfl (lv_at hl 0 rfl) ?_
  refine va_get (D := D) (ci := 5) (v := .ref ta) (C := RX6) (T := TX6) (N := 7) hx hb hts n_X6_existing_X6 hown hK hP 0 rfl rfl 0 (by decide) (wAt hts 1 (w := .fieldLink RX6 11 "FluxBench" "tracks" "[LFluxBench$Track;") rfl) (fun _ h9 => h9) rfl dX6_existing_6 ?_
  refine va_alen (v := nI 4) hx hb hK hP 1 2 rfl rfl rfl dX6_existing_9 ?_
  refine lv_icmp_lt (tgt := 24) hx hb dX6_existing_10 (by decide) (fun _ => ?_) (fun c10 => False.elim (by rw [qlt (a := tn) (b := 4) (by omega) (by omega)] at c10; omega))
  refine lv_aload_n hx hb dX6_existing_24 rfl (lv_at hl 0 rfl) ?_
  refine va_get (D := D) (ci := 5) (v := .ref ta) (C := RX6) (T := TX6) (N := 7) hx hb hts n_X6_existing_X6 hown hK hP 0 rfl rfl 0 (by decide) (wAt hts 1 (w := .fieldLink RX6 11 "FluxBench" "tracks" "[LFluxBench$Track;") rfl) (fun _ h9 => h9) rfl dX6_existing_25 ?_
  refine lv_iload_n hx hb dX6_existing_28 rfl (lv_at hl 1 rfl) ?_
  refine va_aldq hx hb hK hP 1 2 rfl rfl (vp_in_nI (n := tn) (by omega) (by decide)) dX6_existing_29 ?_
  rw [nI_clamp (n := tn) (by omega)]
  rw [hgt]
  refine W.eq (g2 := F0 m 30 ls [.ref h0]) rfl ?_
  refine lv_astore_n (lv' := [(2, .ref h0), (0, .ref be), (1, .int (nI tn))]) hx hb dX6_existing_30 rfl hl (by decide) rfl (fun ls hl => ?_)
  refine lv_aload_n hx hb dX6_existing_31 rfl (lv_at hl 0 rfl) ?_
  refine lv_ifnonnull (tgt := 46) hx hb dX6_existing_32 (by decide) ?_
  refine lv_aload_n hx hb dX6_existing_46 rfl (lv_at hl 0 rfl) ?_
  exact endR (post := fun r w => w = [(be, .inr (5, [.ref ta, .int (nI nt), .int (nI sp), .int (nI dw), .int (nI rds), .int (nI pcs), .int (nI rcs)])), (ta, .inl (kA 2, 4, .inr (.inr (.inr (.inr gt)))))] ∧ (r = h0)) hx hb hr (Or.inl ⟨_, rfl⟩) hlocks hK hP hD hS (⟨rfl, by first | rfl | assumption | omega | (rw [if_pos (by omega)]; first | done | rfl) | (rw [if_neg (by omega)]; first | done | rfl)⟩) (Nat.le_of_ble_eq_true rfl) (Nat.le_of_ble_eq_true rfl) dX6_existing_47

def wq_X6_existingTurn : List Cond := .code yX6_existingTurn cX6_existingTurn 4 (some (.object "FluxBench$Turn")) :: (([.methodLink RX6 52 yX6_existing, .instanceMethod yX6_existing, .selects RX6 yX6_existing yX6_existing, .initialized RX6, .fieldLink RX6 147 "FluxBench$Track" "turnCount" "I", .methodLink RX6 285 yX4_turnAt, .instanceMethod yX4_turnAt, .selects RX4 yX4_turnAt yX4_turnAt, .initialized RX4] : List Cond) ++ (u_ws RX4 TX4 12 ++ (wq_X6_existing ++ (wq_X4_turnAt ++ ([] : List Cond)))))
theorem gd_X6_existingTurn : wq_X6_existingTurn.all goodWord = true := by decide +kernel
theorem n_X6_existingTurn_X4 : ∀ w ∈ u_ws RX4 TX4 12, w ∈ wq_X6_existingTurn := fun w h => List.mem_cons_of_mem _ (List.mem_append_right _ (List.mem_append_left _ h))
theorem h_X6_existingTurn_0 : GoodIn wq_X6_existingTurn (wsV RX6 52 RX6 yX6_existing wq_X6_existing) := goodIn_app (goodIn_r _ [1, 2, 3, 4] (by decide +kernel) (by decide +kernel)) (goodIn_sub (fun w h => List.mem_cons_of_mem _ (List.mem_append_right _ (List.mem_append_right _ (List.mem_append_left _ h)))) gd_X6_existing)
theorem h_X6_existingTurn_1 : GoodIn wq_X6_existingTurn (wsV RX6 285 RX4 yX4_turnAt wq_X4_turnAt) := goodIn_app (goodIn_r _ [6, 7, 8, 9] (by decide +kernel) (by decide +kernel)) (goodIn_sub (fun w h => List.mem_cons_of_mem _ (List.mem_append_right _ (List.mem_append_right _ (List.mem_append_right _ (List.mem_append_left _ h))))) gd_X4_turnAt)
set_option maxHeartbeats 4000000 in
set_option maxRecDepth 100000 in
theorem c_X6_existingTurn (l : Launch) (D : va_G) (kA : Nat → ClassId) (z : Nat) (be ta nt sp dw rds pcs rcs tn : Nat) (gt : Nat → Option Nat) (h0 su vo fp fg t0 t1 t2 : Nat) (cd tc un rd old : Nat) (ag : Nat) (htn : tn < 4) (hgt : gt tn = some h0) (hag : ag < tc) (htc3 : tc ≤ 3) (hold : old ≤ 2) : mR l D (tyL kA) z yX6_existingTurn wq_X6_existingTurn ({ frames := 2, cells := 0, slots := 0, locals := 43 }) [.ref be, .int (nI tn), .int (nI ag)] [(be, .inr (5, [.ref ta, .int (nI nt), .int (nI sp), .int (nI dw), .int (nI rds), .int (nI pcs), .int (nI rcs)])), (ta, .inl (kA 2, 4, .inr (.inr (.inr (.inr gt))))), (h0, .inr (3, [.ref su, .ref vo, .ref fp, .ref fg, .ref t0, .ref t1, .ref t2, .int (nI cd), .int (nI tc), .int (nI un), .int (nI rd), .int (nI old)]))] (fun r w => w = [(be, .inr (5, [.ref ta, .int (nI nt), .int (nI sp), .int (nI dw), .int (nI rds), .int (nI pcs), .int (nI rcs)])), (ta, .inl (kA 2, 4, .inr (.inr (.inr (.inr gt))))), (h0, .inr (3, [.ref su, .ref vo, .ref fp, .ref fg, .ref t0, .ref t1, .ref t2, .int (nI cd), .int (nI tc), .int (nI un), .int (nI rd), .int (nI old)]))] ∧ (r = tuS t0 t1 t2 ((old + ag) % 3))) := by
  refine ofR (cc := cX6_existingTurn) (maxL := 4) RX6 rfl (by decide +kernel) rfl (Nat.le_of_ble_eq_true rfl) ?_
  intro p e s m args below meth c A ls hE
  obtain ⟨hx, hb, hr, hml, hts, hown, hlocks, hA, hS, hP, hK, hD, hG, hl⟩ := hE
  have hl : lv_has ls 4 [(0, .ref be), (1, .int (nI tn)), (2, .int (nI ag))] := hl
  have hH : s.heap = s.heap := rfl
  refine lv_aload_n hx hb dX6_existingTurn_0 rfl (lv_at hl 0 rfl) ?_
  refine lv_iload_n hx hb dX6_existingTurn_1 rfl (lv_at hl 1 rfl) ?_
  have hF := va_free (wc := [(be, .inr (5, [.ref ta, .int (nI nt), .int (nI sp), .int (nI dw), .int (nI rds), .int (nI pcs), .int (nI rcs)])), (ta, .inl (kA 2, 4, .inr (.inr (.inr (.inr gt)))))]) hD hS hA [0, 1] rfl
  refine va_callr (va_runV (As := [.int (nI tn)]) (rest := []) ⟨hx, hb, hml, hown, hts⟩ (c_X6_existing l D kA z be ta nt sp dw rds pcs rcs tn gt h0 (by first | assumption | omega) (by first | assumption | omega) _) (cwV 1 hts h_X6_existingTurn_0 rfl rfl rfl (by decide +kernel) ⟨Nat.le_of_ble_eq_true rfl, Nat.le_of_ble_eq_true rfl⟩) (fPv hK hP hD hS hG hF [0, 1] (by decide) rfl 0 5 rfl rfl rfl) rfl rfl hl.1 rfl (lv_room (Nat.le_of_ble_eq_true rfl)) dX6_existingTurn_2 ⟨Nat.le_of_ble_eq_true rfl, Nat.le_of_ble_eq_true rfl⟩) hS (fun q _ h => hF q h) hF (fun u1 ra9 t H locs ht hvm hw hB hz1 hk1 hS => ?_)
  obtain ⟨ra_1, w1⟩ := u1
  obtain ⟨e0, hB⟩ := hB
  have e0 : ra_1 = ra9 := e0
  subst e0
  obtain ⟨hP, hD⟩ := fJ (wr := [(h0, .inr (3, [.ref su, .ref vo, .ref fp, .ref fg, .ref t0, .ref t1, .ref t2, .int (nI cd), .int (nI tc), .int (nI un), .int (nI rd), .int (nI old)]))]) hP hD [0, 1] [2] rfl rfl (by decide) (by decide) hk1 hF ht hB
  try dsimp only at hw
  obtain ⟨rfl, e_1⟩ := hw
  replace e_1 := e_1.symm
  subst e_1
  have hP : va_P D vwCl [(h0, .inr (3, [.ref su, .ref vo, .ref fp, .ref fg, .ref t0, .ref t1, .ref t2, .int (nI cd), .int (nI tc), .int (nI un), .int (nI rd), .int (nI old)])), (be, .inr (5, [.ref ta, .int (nI nt), .int (nI sp), .int (nI dw), .int (nI rds), .int (nI pcs), .int (nI rcs)])), (ta, .inl (kA 2, 4, .inr (.inr (.inr (.inr gt)))))] H := hP
  have hD : va_D A [(h0, .inr (3, [.ref su, .ref vo, .ref fp, .ref fg, .ref t0, .ref t1, .ref t2, .int (nI cd), .int (nI tc), .int (nI un), .int (nI rd), .int (nI old)])), (be, .inr (5, [.ref ta, .int (nI nt), .int (nI sp), .int (nI dw), .int (nI rds), .int (nI pcs), .int (nI rcs)])), (ta, .inl (kA 2, 4, .inr (.inr (.inr (.inr gt)))))] := hD
  refine lv_astore_n (lv' := [(3, .ref h0), (0, .ref be), (1, .int (nI tn)), (2, .int (nI ag))]) hx hb dX6_existingTurn_5 rfl hl (by decide) rfl (fun ls hl => ?_)
  refine lv_iload_n hx hb dX6_existingTurn_6 rfl (lv_at hl 3 rfl) ?_
  refine lv_if_lt (tgt := 18) hx hb dX6_existingTurn_7 (by decide) (fun c7 => absurd c7 (nI_pos (n := ag) (by omega))) (fun _ => ?_)
  refine lv_iload_n hx hb dX6_existingTurn_10 rfl (lv_at hl 3 rfl) ?_
  refine lv_aload_n hx hb dX6_existingTurn_11 rfl (lv_at hl 0 rfl) ?_
  refine va_get (D := D) (ci := 3) (v := .int (nI tc)) (C := RX4) (T := TX4) (N := 12) hx hb hts n_X6_existingTurn_X4 hown hK hP 0 rfl rfl 8 (by decide) (wAt hts 5 (w := .fieldLink RX6 147 "FluxBench$Track" "turnCount" "I") rfl) (fun _ h9 => h9) rfl dX6_existingTurn_12 ?_
  refine lv_icmp_lt (tgt := 29) hx hb dX6_existingTurn_15 (by decide) (fun _ => ?_) (fun c15 => False.elim (by rw [qlt (a := ag) (b := tc) (by omega) (by omega)] at c15; omega))
  refine lv_aload_n hx hb dX6_existingTurn_29 rfl (lv_at hl 0 rfl) ?_
  refine lv_iload_n hx hb dX6_existingTurn_30 rfl (lv_at hl 3 rfl) ?_
  have hF := va_free (wc := [(h0, .inr (3, [.ref su, .ref vo, .ref fp, .ref fg, .ref t0, .ref t1, .ref t2, .int (nI cd), .int (nI tc), .int (nI un), .int (nI rd), .int (nI old)]))]) hD hS hA [0] rfl
  refine va_callr (va_runV (As := [.int (nI ag)]) (rest := []) ⟨hx, hb, hml, hown, hts⟩ (c_X4_turnAt l D kA z h0 su vo fp fg t0 t1 t2 cd tc un rd old ag (by first | assumption | omega) (by first | assumption | omega) _) (cwV 1 hts h_X6_existingTurn_1 rfl rfl rfl (by decide +kernel) ⟨Nat.le_of_ble_eq_true rfl, Nat.le_of_ble_eq_true rfl⟩) (fPv hK hP hD hS hG hF [0] (by decide) rfl 0 3 rfl rfl rfl) rfl rfl hl.1 rfl (lv_room (Nat.le_of_ble_eq_true rfl)) dX6_existingTurn_31 ⟨Nat.le_of_ble_eq_true rfl, Nat.le_of_ble_eq_true rfl⟩) hS (fun q _ h => hF q h) hF (fun u1 ra9 t H locs ht hvm hw hB hz1 hk1 hS => ?_)
  obtain ⟨ra_2, w1⟩ := u1
  obtain ⟨e0, hB⟩ := hB
  have e0 : ra_2 = ra9 := e0
  subst e0
  obtain ⟨hP, hD⟩ := fJ (wr := [(be, .inr (5, [.ref ta, .int (nI nt), .int (nI sp), .int (nI dw), .int (nI rds), .int (nI pcs), .int (nI rcs)])), (ta, .inl (kA 2, 4, .inr (.inr (.inr (.inr gt)))))]) hP hD [0] [1, 2] rfl rfl (by decide) (by decide) hk1 hF ht hB
  try dsimp only at hw
  obtain ⟨rfl, et_1⟩ := hw
  have hP : va_P D vwCl [(be, .inr (5, [.ref ta, .int (nI nt), .int (nI sp), .int (nI dw), .int (nI rds), .int (nI pcs), .int (nI rcs)])), (ta, .inl (kA 2, 4, .inr (.inr (.inr (.inr gt))))), (h0, .inr (3, [.ref su, .ref vo, .ref fp, .ref fg, .ref t0, .ref t1, .ref t2, .int (nI cd), .int (nI tc), .int (nI un), .int (nI rd), .int (nI old)]))] H := hP
  have hD : va_D A [(be, .inr (5, [.ref ta, .int (nI nt), .int (nI sp), .int (nI dw), .int (nI rds), .int (nI pcs), .int (nI rcs)])), (ta, .inl (kA 2, 4, .inr (.inr (.inr (.inr gt))))), (h0, .inr (3, [.ref su, .ref vo, .ref fp, .ref fg, .ref t0, .ref t1, .ref t2, .int (nI cd), .int (nI tc), .int (nI un), .int (nI rd), .int (nI old)]))] := hD
  exact endR (post := fun r w => w = [(be, .inr (5, [.ref ta, .int (nI nt), .int (nI sp), .int (nI dw), .int (nI rds), .int (nI pcs), .int (nI rcs)])), (ta, .inl (kA 2, 4, .inr (.inr (.inr (.inr gt))))), (h0, .inr (3, [.ref su, .ref vo, .ref fp, .ref fg, .ref t0, .ref t1, .ref t2, .int (nI cd), .int (nI tc), .int (nI un), .int (nI rd), .int (nI old)]))] ∧ (r = tuS t0 t1 t2 ((old + ag) % 3))) hx hb hr (Or.inl ⟨_, rfl⟩) hlocks hK hP hD hS (⟨rfl, by first | rfl | assumption | omega | (rw [if_pos (by omega)]; first | done | rfl) | (rw [if_neg (by omega)]; first | done | rfl)⟩) (Nat.le_of_ble_eq_true rfl) (Nat.le_of_ble_eq_true rfl) dX6_existingTurn_34
