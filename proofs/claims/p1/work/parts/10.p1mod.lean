def wq_Jxa1e45_init_da8c8 : List Cond := .code yJxa1e45_init_da8c8 cJxa1e45_init_da8c8 1 none :: (([.methodLink RJxa1e45 1 objectInit, .instanceMethod objectInit, .code objectInit ⟨#[0xb1]⟩ 1 none] : List Cond) ++ ([] : List Cond))
theorem gd_Jxa1e45_init_da8c8 : wq_Jxa1e45_init_da8c8.all goodWord = true := by decide +kernel
set_option maxHeartbeats 4000000 in
set_option maxRecDepth 100000 in
theorem c_Jxa1e45_init_da8c8 (l : Launch) (D : va_G) (kA : Nat → ClassId) (z : Nat) (h0 : Nat)  : mV l D (tyL kA) z yJxa1e45_init_da8c8 wq_Jxa1e45_init_da8c8 ({ frames := 1, cells := 0, slots := 0, locals := 12 }) [.ref h0] [] (fun w => w = []) := by
  refine ofV (cc := cJxa1e45_init_da8c8) (maxL := 1) RJxa1e45 rfl (by decide +kernel) rfl (Nat.le_of_ble_eq_true rfl) ?_
  intro p e s m args below meth c A ls hnm hE
  obtain ⟨hx, hb, hr, hml, hts, hown, hlocks, hA, hS, hP, hK, hD, hG, hl⟩ := hE
  have hl : lv_has ls 1 [(0, .ref h0)] := hl
  have hH : s.heap = s.heap := rfl
  refine lv_aload_n hx hb dJxa1e45_init_da8c8_0 rfl (lv_at hl 0 rfl) ?_
  refine W.objInit hx hb hown (wAt hts 1 (w := .methodLink RJxa1e45 1 objectInit) rfl) (wAt hts 2 (w := .instanceMethod objectInit) rfl) (wAt hts 3 (w := .code objectInit ⟨#[0xb1]⟩ 1 none) rfl) rfl (by rw [hml]; exact hl.1) rfl dJxa1e45_init_da8c8_1 (Nat.le_of_ble_eq_true rfl) (Nat.le_of_ble_eq_true rfl) ?_
  refine W.eq (g2 := F0 m 4 ls []) rfl ?_
  exact endV hx hb hr hlocks hK hP hD hS (rfl) (Nat.le_of_ble_eq_true rfl) (Nat.le_of_ble_eq_true rfl) dJxa1e45_init_da8c8_4

def wq_Jxc12de_init_da8c8 : List Cond := .code yJxc12de_init_da8c8 cJxc12de_init_da8c8 1 none :: (([.initialized RJxa1e45, .methodLink RJxc12de 1 yJxa1e45_init_da8c8, .instanceMethod yJxa1e45_init_da8c8, .fieldLink RJxc12de 7 "java/util/AbstractList" "modCount" "I"] : List Cond) ++ (u_ws RJx4a65c TJx4a65c 3 ++ (wq_Jxa1e45_init_da8c8 ++ ([] : List Cond))))
theorem gd_Jxc12de_init_da8c8 : wq_Jxc12de_init_da8c8.all goodWord = true := by decide +kernel
theorem n_Jxc12de_init_da8c8_Jx4a65c : ∀ w ∈ u_ws RJx4a65c TJx4a65c 3, w ∈ wq_Jxc12de_init_da8c8 := fun w h => List.mem_cons_of_mem _ (List.mem_append_right _ (List.mem_append_left _ h))
theorem h_Jxc12de_init_da8c8_0 : GoodIn wq_Jxc12de_init_da8c8 (wq_Jxa1e45_init_da8c8) := goodIn_sub (fun w h => List.mem_cons_of_mem _ (List.mem_append_right _ (List.mem_append_right _ (List.mem_append_left _ h)))) gd_Jxa1e45_init_da8c8
set_option maxHeartbeats 4000000 in
set_option maxRecDepth 100000 in
theorem c_Jxc12de_init_da8c8 (l : Launch) (D : va_G) (kA : Nat → ClassId) (z : Nat) (h0 : Nat) (mc sz : Int32)  : mV l D (tyL kA) z yJxc12de_init_da8c8 wq_Jxc12de_init_da8c8 ({ frames := 2, cells := 0, slots := 0, locals := 32 }) [.ref h0] [(h0, .inr (1, [.int mc, .null, .int sz]))] (fun w => w = [(h0, .inr (1, [.int (nI 0), .null, .int sz]))]) := by
  refine ofV (cc := cJxc12de_init_da8c8) (maxL := 1) RJxc12de rfl (by decide +kernel) rfl (Nat.le_of_ble_eq_true rfl) ?_
  intro p e s m args below meth c A ls hnm hE
  obtain ⟨hx, hb, hr, hml, hts, hown, hlocks, hA, hS, hP, hK, hD, hG, hl⟩ := hE
  have hl : lv_has ls 1 [(0, .ref h0)] := hl
  have hH : s.heap = s.heap := rfl
  refine lv_aload_n hx hb dJxc12de_init_da8c8_0 rfl (lv_at hl 0 rfl) ?_
  have hF := va_free (wc := []) hD hS hA [] rfl
  refine va_callv (va_runI (As := []) (rest := []) ⟨hx, hb, hml, hown, hts⟩ (c_Jxa1e45_init_da8c8 l D kA z h0  _) (cwI 0 hts h_Jxc12de_init_da8c8_0 rfl rfl rfl (wAt hts 1 (w := .initialized RJxa1e45) rfl) (wAt hts 2 (w := .methodLink RJxc12de 1 yJxa1e45_init_da8c8) rfl) (wAt hts 3 (w := .instanceMethod yJxa1e45_init_da8c8) rfl) rfl (by decide +kernel) ⟨Nat.le_of_ble_eq_true rfl, Nat.le_of_ble_eq_true rfl⟩) (fPs hK hP hD hS hG hF [] (by decide) rfl) rfl rfl hl.1 rfl (lv_room (Nat.le_of_ble_eq_true rfl)) dJxc12de_init_da8c8_1 ⟨Nat.le_of_ble_eq_true rfl, Nat.le_of_ble_eq_true rfl⟩) hS (fun q _ h => hF q h) hF (fun w1 t H locs ht hvm hw hB hz1 hk1 hS => ?_)
  obtain ⟨hP, hD⟩ := fJ (wr := [(h0, .inr (1, [.int mc, .null, .int sz]))]) hP hD [] [0] rfl rfl (by decide) (by decide) hk1 hF ht hB
  try dsimp only at hw
  subst hw
  have hP : va_P D vwCl [(h0, .inr (1, [.int mc, .null, .int sz]))] H := hP
  have hD : va_D A [(h0, .inr (1, [.int mc, .null, .int sz]))] := hD
  refine lv_aload_n hx hb dJxc12de_init_da8c8_4 rfl (lv_at hl 0 rfl) ?_
  refine lv_iconst (v := nI 0) hx hb dJxc12de_init_da8c8_5 (by decide) ?_
  refine va_put (D := D) (ci := 1) (v := .int (nI 0)) (ty := .int) (C := RJx4a65c) (T := TJx4a65c) (N := 3) hx hb hts n_Jxc12de_init_da8c8_Jx4a65c tyJx4a65c tyJx4a65c_ok nmJx4a65c hown hK hP hD hS 0 rfl rfl 0 (by decide) (wAt hts 4 (w := .fieldLink RJxc12de 7 "java/util/AbstractList" "modCount" "I") rfl) (fun _ h9 => h9) rfl (by decide +kernel) rfl rfl (Nat.le_of_ble_eq_true rfl) dJxc12de_init_da8c8_6 (fun H locs hP hD hS => ?_)
  have hP : va_P D vwCl [(h0, .inr (1, [.int (nI 0), .null, .int sz]))] H := hP
  have hD : va_D A [(h0, .inr (1, [.int (nI 0), .null, .int sz]))] := hD
  exact endV hx hb hr hlocks hK hP hD hS (rfl) (Nat.le_of_ble_eq_true rfl) (Nat.le_of_ble_eq_true rfl) dJxc12de_init_da8c8_9

def wq_Jx4a65c_init_da8c8 : List Cond := .code yJx4a65c_init_da8c8 cJx4a65c_init_da8c8 1 none :: (([.initialized RJxc12de, .methodLink RJx4a65c 1 yJxc12de_init_da8c8, .instanceMethod yJxc12de_init_da8c8, .fieldLink RJx4a65c 39 "java/util/ArrayList" "DEFAULTCAPACITY_EMPTY_ELEMENTDATA" "[Ljava/lang/Object;", .fieldLink RJx4a65c 9 "java/util/ArrayList" "elementData" "[Ljava/lang/Object;"] : List Cond) ++ (u_ws RJx4a65c TJx4a65c 3 ++ (wq_Jxc12de_init_da8c8 ++ ([] : List Cond))))
theorem gd_Jx4a65c_init_da8c8 : wq_Jx4a65c_init_da8c8.all goodWord = true := by decide +kernel
theorem n_Jx4a65c_init_da8c8_Jx4a65c : ∀ w ∈ u_ws RJx4a65c TJx4a65c 3, w ∈ wq_Jx4a65c_init_da8c8 := fun w h => List.mem_cons_of_mem _ (List.mem_append_right _ (List.mem_append_left _ h))
theorem h_Jx4a65c_init_da8c8_0 : GoodIn wq_Jx4a65c_init_da8c8 (wq_Jxc12de_init_da8c8) := goodIn_sub (fun w h => List.mem_cons_of_mem _ (List.mem_append_right _ (List.mem_append_right _ (List.mem_append_left _ h)))) gd_Jxc12de_init_da8c8
set_option maxHeartbeats 4000000 in
set_option maxRecDepth 100000 in
theorem c_Jx4a65c_init_da8c8 (l : Launch) (D : va_G) (kA : Nat → ClassId) (z : Nat) (h0 : Nat)  : mV l D (tyL kA) z yJx4a65c_init_da8c8 wq_Jx4a65c_init_da8c8 ({ frames := 3, cells := 0, slots := 0, locals := 52 }) [.ref h0] [(h0, .inr (1, [.int 0, .null, .int 0]))] (fun w => w = [(h0, .inr (1, [.int (nI 0), .ref z, .int (nI 0)]))]) := by
  refine ofV (cc := cJx4a65c_init_da8c8) (maxL := 1) RJx4a65c rfl (by decide +kernel) rfl (Nat.le_of_ble_eq_true rfl) ?_
  intro p e s m args below meth c A ls hnm hE
  obtain ⟨hx, hb, hr, hml, hts, hown, hlocks, hA, hS, hP, hK, hD, hG, hl⟩ := hE
  have hl : lv_has ls 1 [(0, .ref h0)] := hl
  have hH : s.heap = s.heap := rfl
  refine lv_aload_n hx hb dJx4a65c_init_da8c8_0 rfl (lv_at hl 0 rfl) ?_
  have hF := va_free (wc := [(h0, .inr (1, [.int 0, .null, .int 0]))]) hD hS hA [0] rfl
  refine va_callv (va_runI (As := []) (rest := []) ⟨hx, hb, hml, hown, hts⟩ (c_Jxc12de_init_da8c8 l D kA z h0 0 0  _) (cwI 0 hts h_Jx4a65c_init_da8c8_0 rfl rfl rfl (wAt hts 1 (w := .initialized RJxc12de) rfl) (wAt hts 2 (w := .methodLink RJx4a65c 1 yJxc12de_init_da8c8) rfl) (wAt hts 3 (w := .instanceMethod yJxc12de_init_da8c8) rfl) rfl (by decide +kernel) ⟨Nat.le_of_ble_eq_true rfl, Nat.le_of_ble_eq_true rfl⟩) (fPs hK hP hD hS hG hF [0] (by decide) rfl) rfl rfl hl.1 rfl (lv_room (Nat.le_of_ble_eq_true rfl)) dJx4a65c_init_da8c8_1 ⟨Nat.le_of_ble_eq_true rfl, Nat.le_of_ble_eq_true rfl⟩) hS (fun q _ h => hF q h) hF (fun w1 t H locs ht hvm hw hB hz1 hk1 hS => ?_)
  obtain ⟨hP, hD⟩ := fJ (wr := []) hP hD [0] [] rfl rfl (by decide) (by decide) hk1 hF ht hB
  try dsimp only at hw
  subst hw
  have hP : va_P D vwCl [(h0, .inr (1, [.int (nI 0), .null, .int 0]))] H := hP
  have hD : va_D A [(h0, .inr (1, [.int (nI 0), .null, .int 0]))] := hD
  refine lv_aload_n hx hb dJx4a65c_init_da8c8_4 rfl (lv_at hl 0 rfl) ?_
  refine va_gets hx hb hG.2.2.2.2.1 hS hown (wAt hts 4 (w := .fieldLink RJx4a65c 39 "java/util/ArrayList" "DEFAULTCAPACITY_EMPTY_ELEMENTDATA" "[Ljava/lang/Object;") rfl) (fun _ h9 => h9) dJx4a65c_init_da8c8_5 ?_
  refine va_put (D := D) (ci := 1) (v := .ref z) (ty := (tyJx4a65c 1)) (C := RJx4a65c) (T := TJx4a65c) (N := 3) hx hb hts n_Jx4a65c_init_da8c8_Jx4a65c tyJx4a65c tyJx4a65c_ok nmJx4a65c hown hK hP hD hS 0 rfl rfl 1 (by decide) (wAt hts 5 (w := .fieldLink RJx4a65c 9 "java/util/ArrayList" "elementData" "[Ljava/lang/Object;") rfl) (fun _ h9 => h9) rfl (by decide +kernel) rfl rfl (Nat.le_of_ble_eq_true rfl) dJx4a65c_init_da8c8_8 (fun H locs hP hD hS => ?_)
  have hP : va_P D vwCl [(h0, .inr (1, [.int (nI 0), .ref z, .int 0]))] H := hP
  have hD : va_D A [(h0, .inr (1, [.int (nI 0), .ref z, .int 0]))] := hD
  exact endV hx hb hr hlocks hK hP hD hS (rfl) (Nat.le_of_ble_eq_true rfl) (Nat.le_of_ble_eq_true rfl) dJx4a65c_init_da8c8_11

def wq_Jx4a65c_size_8abf5 : List Cond := .code yJx4a65c_size_8abf5 cJx4a65c_size_8abf5 1 (some .int) :: (([.fieldLink RJx4a65c 48 "java/util/ArrayList" "size" "I"] : List Cond) ++ (u_ws RJx4a65c TJx4a65c 3 ++ ([] : List Cond)))
theorem gd_Jx4a65c_size_8abf5 : wq_Jx4a65c_size_8abf5.all goodWord = true := by decide +kernel
theorem n_Jx4a65c_size_8abf5_Jx4a65c : ∀ w ∈ u_ws RJx4a65c TJx4a65c 3, w ∈ wq_Jx4a65c_size_8abf5 := fun w h => List.mem_cons_of_mem _ (List.mem_append_right _ (List.mem_append_left _ h))
set_option maxHeartbeats 4000000 in
set_option maxRecDepth 100000 in
theorem c_Jx4a65c_size_8abf5 (l : Launch) (D : va_G) (kA : Nat → ClassId) (z : Nat) (h0 ed sz : Nat) (mc : Int32)  : mI l D (tyL kA) z yJx4a65c_size_8abf5 wq_Jx4a65c_size_8abf5 ({ frames := 0, cells := 0, slots := 0, locals := 0 }) [.ref h0] [(h0, .inr (1, [.int mc, .ref ed, .int (nI sz)]))] (fun r w => w = [(h0, .inr (1, [.int mc, .ref ed, .int (nI sz)]))] ∧ r = nI sz) := by
  refine ofI (cc := cJx4a65c_size_8abf5) (maxL := 1) RJx4a65c rfl (by decide +kernel) rfl (Nat.le_of_ble_eq_true rfl) ?_
  intro p e s m args below meth c A ls hE
  obtain ⟨hx, hb, hr, hml, hts, hown, hlocks, hA, hS, hP, hK, hD, hG, hl⟩ := hE
  have hl : lv_has ls 1 [(0, .ref h0)] := hl
  have hH : s.heap = s.heap := rfl
  refine lv_aload_n hx hb dJx4a65c_size_8abf5_0 rfl (lv_at hl 0 rfl) ?_
  refine va_get (D := D) (ci := 1) (v := .int (nI sz)) (C := RJx4a65c) (T := TJx4a65c) (N := 3) hx hb hts n_Jx4a65c_size_8abf5_Jx4a65c hown hK hP 0 rfl rfl 2 (by decide) (wAt hts 1 (w := .fieldLink RJx4a65c 48 "java/util/ArrayList" "size" "I") rfl) (fun _ h9 => h9) rfl dJx4a65c_size_8abf5_1 ?_
  exact endI hx hb hr hlocks hK hP hD hS (⟨rfl, by first | rfl | assumption | omega | (rw [if_pos (by omega)]; first | done | rfl) | (rw [if_neg (by omega)]; first | done | rfl)⟩) (Nat.le_of_ble_eq_true rfl) (Nat.le_of_ble_eq_true rfl) dJx4a65c_size_8abf5_4

def wq_X10_init : List Cond := .code yX10_init cX10_init 1 none :: (([.methodLink RX10 1 objectInit, .instanceMethod objectInit, .code objectInit ⟨#[0xb1]⟩ 1 none, .classLink RX10 7 RJx4a65c, .instantiable RJx4a65c 3, .initialized RJx4a65c, .methodLink RX10 9 yJx4a65c_init_da8c8, .instanceMethod yJx4a65c_init_da8c8, .fieldLink RX10 10 "FluxBenchModel" "tracks" "Ljava/util/ArrayList;", .fieldLink RX10 16 "FluxBenchModel" "speed" "I"] : List Cond) ++ (u_ws RJx4a65c TJx4a65c 3 ++ (u_ws RX10 TX10 8 ++ (wq_Jx4a65c_init_da8c8 ++ ([] : List Cond)))))
theorem gd_X10_init : wq_X10_init.all goodWord = true := by decide +kernel
theorem n_X10_init_Jx4a65c : ∀ w ∈ u_ws RJx4a65c TJx4a65c 3, w ∈ wq_X10_init := fun w h => List.mem_cons_of_mem _ (List.mem_append_right _ (List.mem_append_left _ h))
theorem n_X10_init_X10 : ∀ w ∈ u_ws RX10 TX10 8, w ∈ wq_X10_init := fun w h => List.mem_cons_of_mem _ (List.mem_append_right _ (List.mem_append_right _ (List.mem_append_left _ h)))
theorem h_X10_init_0 : GoodIn wq_X10_init (wq_Jx4a65c_init_da8c8) := goodIn_sub (fun w h => List.mem_cons_of_mem _ (List.mem_append_right _ (List.mem_append_right _ (List.mem_append_right _ (List.mem_append_left _ h))))) gd_Jx4a65c_init_da8c8
set_option maxHeartbeats 4000000 in
set_option maxRecDepth 100000 in
theorem c_X10_init (l : Launch) (D : va_G) (kA : Nat → ClassId) (z : Nat) (h0 : Nat)  : mV l D (tyL kA) z yX10_init wq_X10_init ({ frames := 4, cells := 1, slots := 3, locals := 72 }) [.ref h0] [(h0, .inr (11, [.int 0, .null, .int 0, .int 0, .int 0, .int 0, .int 0, .long 0]))] (fun w => ∃ (q : Nat), w = [(h0, .inr (11, [.int (nI 0), .ref q, .int (nI 8), .int (nI 0), .int (nI 0), .int (nI 0), .int (nI 0), .long 0])), (q, .inr (1, [.int (nI 0), .ref z, .int (nI 0)]))]) := by
  refine ofV (cc := cX10_init) (maxL := 1) RX10 rfl (by decide +kernel) rfl (Nat.le_of_ble_eq_true rfl) ?_
  intro p e s m args below meth c A ls hnm hE
  obtain ⟨hx, hb, hr, hml, hts, hown, hlocks, hA, hS, hP, hK, hD, hG, hl⟩ := hE
  have hl : lv_has ls 1 [(0, .ref h0)] := hl
  have hH : s.heap = s.heap := rfl
  refine lv_aload_n hx hb dX10_init_0 rfl (lv_at hl 0 rfl) ?_
  refine W.objInit hx hb hown (wAt hts 1 (w := .methodLink RX10 1 objectInit) rfl) (wAt hts 2 (w := .instanceMethod objectInit) rfl) (wAt hts 3 (w := .code objectInit ⟨#[0xb1]⟩ 1 none) rfl) rfl (by rw [hml]; exact hl.1) rfl dX10_init_1 (Nat.le_of_ble_eq_true rfl) (Nat.le_of_ble_eq_true rfl) ?_
  refine W.eq (g2 := F0 m 4 ls []) rfl ?_
  refine lv_aload_n hx hb dX10_init_4 rfl (lv_at hl 0 rfl) ?_
  refine va_new (ci := 1) (fs := [.int 0, .null, .int 0]) (C := RJx4a65c) (T := TJx4a65c) (N := 3) hx hb hts n_X10_init_Jx4a65c tyJx4a65c tyJx4a65c_ok hown (wAt hts 4 (w := .classLink RX10 7 RJx4a65c) rfl) (wAt hts 5 (w := .instantiable RJx4a65c 3) rfl) (wAt hts 6 (w := .initialized RJx4a65c) rfl) hK hP hD hS hA rfl (fun j hj => by rcases j with _ | _ | _ | _ <;> first | rfl | omega) (Nat.le_of_ble_eq_true rfl) (Nat.le_of_ble_eq_true rfl) dX10_init_5 (fun q_1 H hP hD hS => ?_)
  have hP : va_P D vwCl [(h0, .inr (11, [.int 0, .null, .int 0, .int 0, .int 0, .int 0, .int 0, .long 0])), (q_1, .inr (1, [.int 0, .null, .int 0]))] H := hP
  have hD : va_D A [(h0, .inr (11, [.int 0, .null, .int 0, .int 0, .int 0, .int 0, .int 0, .long 0])), (q_1, .inr (1, [.int 0, .null, .int 0]))] := hD
  refine lv_dup hx hb dX10_init_8 rfl ?_
  have hF := va_free (wc := [(q_1, .inr (1, [.int 0, .null, .int 0]))]) hD hS hA [1] rfl
  refine va_callv (va_runI (As := []) (rest := [.ref q_1, .ref h0]) ⟨hx, hb, hml, hown, hts⟩ (c_Jx4a65c_init_da8c8 l D kA z q_1  _) (cwI 0 hts h_X10_init_0 rfl rfl rfl (wAt hts 6 (w := .initialized RJx4a65c) rfl) (wAt hts 7 (w := .methodLink RX10 9 yJx4a65c_init_da8c8) rfl) (wAt hts 8 (w := .instanceMethod yJx4a65c_init_da8c8) rfl) rfl (by decide +kernel) ⟨Nat.le_of_ble_eq_true rfl, Nat.le_of_ble_eq_true rfl⟩) (fPs hK hP hD hS hG hF [1] (by decide) rfl) rfl rfl hl.1 rfl (lv_room (Nat.le_of_ble_eq_true rfl)) dX10_init_9 ⟨Nat.le_of_ble_eq_true rfl, Nat.le_of_ble_eq_true rfl⟩) hS (fun q _ h => hF q h) hF (fun w1 t H locs ht hvm hw hB hz1 hk1 hS => ?_)
  obtain ⟨hP, hD⟩ := fJ (wr := [(h0, .inr (11, [.int 0, .null, .int 0, .int 0, .int 0, .int 0, .int 0, .long 0]))]) hP hD [1] [0] rfl rfl (by decide) (by decide) hk1 hF ht hB
  try dsimp only at hw
  subst hw
  have hP : va_P D vwCl [(h0, .inr (11, [.int 0, .null, .int 0, .int 0, .int 0, .int 0, .int 0, .long 0])), (q_1, .inr (1, [.int (nI 0), .ref z, .int (nI 0)]))] H := hP
  have hD : va_D A [(h0, .inr (11, [.int 0, .null, .int 0, .int 0, .int 0, .int 0, .int 0, .long 0])), (q_1, .inr (1, [.int (nI 0), .ref z, .int (nI 0)]))] := hD
  refine va_putF (D := D) (ci := 11) (v := .ref q_1) (ty := (tyX10 1)) (C := RX10) (T := TX10) (N := 8) hx hb hts n_X10_init_X10 tyX10 tyX10_ok nmX10 hown hK hP hD hS 0 rfl rfl 1 (by decide) (wAt hts 9 (w := .fieldLink RX10 10 "FluxBenchModel" "tracks" "Ljava/util/ArrayList;") rfl) (fun _ h9 => h9) rfl hnm rfl (by decide +kernel) rfl rfl (Nat.le_of_ble_eq_true rfl) dX10_init_12 (fun H locs hP hD hS => ?_)
  have hP : va_P D vwCl [(h0, .inr (11, [.int 0, .ref q_1, .int 0, .int 0, .int 0, .int 0, .int 0, .long 0])), (q_1, .inr (1, [.int (nI 0), .ref z, .int (nI 0)]))] H := hP
  have hD : va_D A [(h0, .inr (11, [.int 0, .ref q_1, .int 0, .int 0, .int 0, .int 0, .int 0, .long 0])), (q_1, .inr (1, [.int (nI 0), .ref z, .int (nI 0)]))] := hD
  refine lv_aload_n hx hb dX10_init_15 rfl (lv_at hl 0 rfl) ?_
  refine lv_bipush (v := nI 8) hx hb dX10_init_16 (by decide) ?_
  refine va_put (D := D) (ci := 11) (v := .int (nI 8)) (ty := .int) (C := RX10) (T := TX10) (N := 8) hx hb hts n_X10_init_X10 tyX10 tyX10_ok nmX10 hown hK hP hD hS 0 rfl rfl 2 (by decide) (wAt hts 10 (w := .fieldLink RX10 16 "FluxBenchModel" "speed" "I") rfl) (fun _ h9 => h9) rfl (by decide +kernel) rfl rfl (Nat.le_of_ble_eq_true rfl) dX10_init_18 (fun H locs hP hD hS => ?_)
  have hP : va_P D vwCl [(h0, .inr (11, [.int 0, .ref q_1, .int (nI 8), .int 0, .int 0, .int 0, .int 0, .long 0])), (q_1, .inr (1, [.int (nI 0), .ref z, .int (nI 0)]))] H := hP
  have hD : va_D A [(h0, .inr (11, [.int 0, .ref q_1, .int (nI 8), .int 0, .int 0, .int 0, .int 0, .long 0])), (q_1, .inr (1, [.int (nI 0), .ref z, .int (nI 0)]))] := hD
  exact endV hx hb hr hlocks hK hP hD hS (⟨q_1, rfl⟩) (Nat.le_of_ble_eq_true rfl) (Nat.le_of_ble_eq_true rfl) dX10_init_21

def wq_X10_thrown : List Cond := .code yX10_thrown cX10_thrown 1 (some .int) :: (([.fieldLink RX10 20 "FluxBenchModel" "thrown" "I"] : List Cond) ++ (u_ws RX10 TX10 8 ++ ([] : List Cond)))
theorem gd_X10_thrown : wq_X10_thrown.all goodWord = true := by decide +kernel
theorem n_X10_thrown_X10 : ∀ w ∈ u_ws RX10 TX10 8, w ∈ wq_X10_thrown := fun w h => List.mem_cons_of_mem _ (List.mem_append_right _ (List.mem_append_left _ h))
set_option maxHeartbeats 4000000 in
set_option maxRecDepth 100000 in
theorem c_X10_thrown (l : Launch) (D : va_G) (kA : Nat → ClassId) (z : Nat) (h0 q : Nat) (th sp dr rd pl rw : Int32) (sm : Int64)  : mI l D (tyL kA) z yX10_thrown wq_X10_thrown ({ frames := 0, cells := 0, slots := 0, locals := 0 }) [.ref h0] [(h0, .inr (11, [.int th, .ref q, .int sp, .int dr, .int rd, .int pl, .int rw, .long sm]))] (fun r w => w = [(h0, .inr (11, [.int th, .ref q, .int sp, .int dr, .int rd, .int pl, .int rw, .long sm]))] ∧ r = th) := by
  refine ofI (cc := cX10_thrown) (maxL := 1) RX10 rfl (by decide +kernel) rfl (Nat.le_of_ble_eq_true rfl) ?_
  intro p e s m args below meth c A ls hE
  obtain ⟨hx, hb, hr, hml, hts, hown, hlocks, hA, hS, hP, hK, hD, hG, hl⟩ := hE
  have hl : lv_has ls 1 [(0, .ref h0)] := hl
  have hH : s.heap = s.heap := rfl
  refine lv_aload_n hx hb dX10_thrown_0 rfl (lv_at hl 0 rfl) ?_
  refine va_get (D := D) (ci := 11) (v := .int th) (C := RX10) (T := TX10) (N := 8) hx hb hts n_X10_thrown_X10 hown hK hP 0 rfl rfl 0 (by decide) (wAt hts 1 (w := .fieldLink RX10 20 "FluxBenchModel" "thrown" "I") rfl) (fun _ h9 => h9) rfl dX10_thrown_1 ?_
  exact endI hx hb hr hlocks hK hP hD hS (⟨rfl, by first | rfl | assumption | omega | (rw [if_pos (by omega)]; first | done | rfl) | (rw [if_neg (by omega)]; first | done | rfl)⟩) (Nat.le_of_ble_eq_true rfl) (Nat.le_of_ble_eq_true rfl) dX10_thrown_4

def wq_X10_refuse : List Cond := .code yX10_refuse cX10_refuse 2 (some .int) :: (([.fieldLink RX10 20 "FluxBenchModel" "thrown" "I"] : List Cond) ++ (u_ws RX10 TX10 8 ++ ([] : List Cond)))
theorem gd_X10_refuse : wq_X10_refuse.all goodWord = true := by decide +kernel
theorem n_X10_refuse_X10 : ∀ w ∈ u_ws RX10 TX10 8, w ∈ wq_X10_refuse := fun w h => List.mem_cons_of_mem _ (List.mem_append_right _ (List.mem_append_left _ h))
set_option maxHeartbeats 4000000 in
set_option maxRecDepth 100000 in
theorem c_X10_refuse (l : Launch) (D : va_G) (kA : Nat → ClassId) (z : Nat) (h0 q : Nat) (k th sp dr rd pl rw : Int32) (sm : Int64)  : mI l D (tyL kA) z yX10_refuse wq_X10_refuse ({ frames := 0, cells := 0, slots := 0, locals := 0 }) [.ref h0, .int k] [(h0, .inr (11, [.int th, .ref q, .int sp, .int dr, .int rd, .int pl, .int rw, .long sm]))] (fun r w => w = [(h0, .inr (11, [.int k, .ref q, .int sp, .int dr, .int rd, .int pl, .int rw, .long sm]))] ∧ r = nI 0) := by
  refine ofI (cc := cX10_refuse) (maxL := 2) RX10 rfl (by decide +kernel) rfl (Nat.le_of_ble_eq_true rfl) ?_
  intro p e s m args below meth c A ls hE
  obtain ⟨hx, hb, hr, hml, hts, hown, hlocks, hA, hS, hP, hK, hD, hG, hl⟩ := hE
  have hl : lv_has ls 2 [(0, .ref h0), (1, .int k)] := hl
  have hH : s.heap = s.heap := rfl
  refine lv_aload_n hx hb dX10_refuse_0 rfl (lv_at hl 0 rfl) ?_
  refine lv_iload_n hx hb dX10_refuse_1 rfl (lv_at hl 1 rfl) ?_
  refine va_put (D := D) (ci := 11) (v := .int k) (ty := .int) (C := RX10) (T := TX10) (N := 8) hx hb hts n_X10_refuse_X10 tyX10 tyX10_ok nmX10 hown hK hP hD hS 0 rfl rfl 0 (by decide) (wAt hts 1 (w := .fieldLink RX10 20 "FluxBenchModel" "thrown" "I") rfl) (fun _ h9 => h9) rfl (by decide +kernel) rfl rfl (Nat.le_of_ble_eq_true rfl) dX10_refuse_2 (fun H locs hP hD hS => ?_)
  have hP : va_P D vwCl [(h0, .inr (11, [.int k, .ref q, .int sp, .int dr, .int rd, .int pl, .int rw, .long sm]))] H := hP
  have hD : va_D A [(h0, .inr (11, [.int k, .ref q, .int sp, .int dr, .int rd, .int pl, .int rw, .long sm]))] := hD
  refine lv_iconst (v := nI 0) hx hb dX10_refuse_5 (by decide) ?_
  exact endI hx hb hr hlocks hK hP hD hS (⟨rfl, by first | rfl | assumption | omega | (rw [if_pos (by omega)]; first | done | rfl) | (rw [if_neg (by omega)]; first | done | rfl)⟩) (Nat.le_of_ble_eq_true rfl) (Nat.le_of_ble_eq_true rfl) dX10_refuse_6

def wq_X10_is : List Cond := .code yX10_is cX10_is 3 (some .boolean) :: (([] : List Cond) ++ ([] : List Cond))
theorem gd_X10_is : wq_X10_is.all goodWord = true := by decide +kernel
set_option maxHeartbeats 4000000 in
set_option maxRecDepth 100000 in
theorem c_X10_is (l : Launch) (D : va_G) (kA : Nat → ClassId) (z : Nat) (x lo hi : Int32)  : mI l D (tyL kA) z yX10_is wq_X10_is ({ frames := 0, cells := 0, slots := 0, locals := 0 }) [.int x, .int lo, .int hi] [] (fun r w => w = [] ∧ r = nI (if lo ≤ x ∧ x ≤ hi then 1 else 0)) := by
  refine ofI (cc := cX10_is) (maxL := 3) RX10 rfl (by decide +kernel) rfl (Nat.le_of_ble_eq_true rfl) ?_
  intro p e s m args below meth c A ls hE
  obtain ⟨hx, hb, hr, hml, hts, hown, hlocks, hA, hS, hP, hK, hD, hG, hl⟩ := hE
  have hl : lv_has ls 3 [(0, .int x), (1, .int lo), (2, .int hi)] := hl
  have hH : s.heap = s.heap := rfl
  refine lv_iload_n hx hb dX10_is_0 rfl (lv_at hl 0 rfl) ?_
  refine lv_iload_n hx hb dX10_is_1 rfl (lv_at hl 1 rfl) ?_
  refine lv_icmp_lt (tgt := 14) hx hb dX10_is_2 (by decide) (fun c2 => ?_) (fun c2 => ?_)
  ·
    refine lv_iconst (v := nI 0) hx hb dX10_is_14 (by decide) ?_
    exact endZ hx hb hr hlocks (rfl) hK hP hD hS (⟨rfl, by first | exact is1 (by assumption) (by assumption) | exact is0a (by assumption) | exact is0b (by assumption)⟩) (Nat.le_of_ble_eq_true rfl) (Nat.le_of_ble_eq_true rfl) dX10_is_15
  ·
    refine lv_iload_n hx hb dX10_is_5 rfl (lv_at hl 0 rfl) ?_
    refine lv_iload_n hx hb dX10_is_6 rfl (lv_at hl 2 rfl) ?_
    refine lv_icmp_gt (tgt := 14) hx hb dX10_is_7 (by decide) (fun c7 => ?_) (fun c7 => ?_)
    ·
      refine lv_iconst (v := nI 0) hx hb dX10_is_14 (by decide) ?_
      exact endZ hx hb hr hlocks (rfl) hK hP hD hS (⟨rfl, by first | exact is1 (by assumption) (by assumption) | exact is0a (by assumption) | exact is0b (by assumption)⟩) (Nat.le_of_ble_eq_true rfl) (Nat.le_of_ble_eq_true rfl) dX10_is_15
    ·
      refine lv_iconst (v := nI 1) hx hb dX10_is_10 (by decide) ?_
      refine lv_goto (tgt := 15) hx hb dX10_is_11 (by decide) ?_
      exact endZ hx hb hr hlocks (rfl) hK hP hD hS (⟨rfl, by first | exact is1 (by assumption) (by assumption) | exact is0a (by assumption) | exact is0b (by assumption)⟩) (Nat.le_of_ble_eq_true rfl) (Nat.le_of_ble_eq_true rfl) dX10_is_15

def wq_X10_isTrack_e : List Cond := .code yX10_isTrack cX10_isTrack 2 (some .boolean) :: (([.fieldLink RX10 10 "FluxBenchModel" "tracks" "Ljava/util/ArrayList;", .methodLink RX10 23 yJx4a65c_size_8abf5, .instanceMethod yJx4a65c_size_8abf5, .selects RJx4a65c yJx4a65c_size_8abf5 yJx4a65c_size_8abf5, .initialized RJx4a65c, .methodLink RX10 27 yX10_is, .static yX10_is, .initialized RX10] : List Cond) ++ (u_ws RX10 TX10 8 ++ (wq_Jx4a65c_size_8abf5 ++ (wq_X10_is ++ ([] : List Cond)))))
theorem gd_X10_isTrack_e : wq_X10_isTrack_e.all goodWord = true := by decide +kernel
theorem n_X10_isTrack_e_X10 : ∀ w ∈ u_ws RX10 TX10 8, w ∈ wq_X10_isTrack_e := fun w h => List.mem_cons_of_mem _ (List.mem_append_right _ (List.mem_append_left _ h))
theorem h_X10_isTrack_e_0 : GoodIn wq_X10_isTrack_e (wsV RX10 23 RJx4a65c yJx4a65c_size_8abf5 wq_Jx4a65c_size_8abf5) := goodIn_app (goodIn_r _ [2, 3, 4, 5] (by decide +kernel) (by decide +kernel)) (goodIn_sub (fun w h => List.mem_cons_of_mem _ (List.mem_append_right _ (List.mem_append_right _ (List.mem_append_left _ h)))) gd_Jx4a65c_size_8abf5)
theorem h_X10_isTrack_e_1 : GoodIn wq_X10_isTrack_e (va_wsS RX10 27 yX10_is wq_X10_is) := goodIn_app (goodIn_r _ [6, 7, 8] (by decide +kernel) (by decide +kernel)) (goodIn_sub (fun w h => List.mem_cons_of_mem _ (List.mem_append_right _ (List.mem_append_right _ (List.mem_append_right _ (List.mem_append_left _ h))))) gd_X10_is)
set_option maxHeartbeats 4000000 in
set_option maxRecDepth 100000 in
theorem c_X10_isTrack_e (l : Launch) (D : va_G) (kA : Nat → ClassId) (z : Nat) (h0 q : Nat) (th x : Int32)  : mI l D (tyL kA) z yX10_isTrack wq_X10_isTrack_e ({ frames := 1, cells := 0, slots := 0, locals := 30 }) [.ref h0, .int x] [(h0, .inr (11, [.int th, .ref q, .int (nI 8), .int (nI 0), .int (nI 0), .int (nI 0), .int (nI 0), .long 0])), (q, .inr (1, [.int (nI 0), .ref z, .int (nI 0)]))] (fun r w => w = [(h0, .inr (11, [.int th, .ref q, .int (nI 8), .int (nI 0), .int (nI 0), .int (nI 0), .int (nI 0), .long 0])), (q, .inr (1, [.int (nI 0), .ref z, .int (nI 0)]))] ∧ r = nI 0) := by
  refine ofI (cc := cX10_isTrack) (maxL := 2) RX10 rfl (by decide +kernel) rfl (Nat.le_of_ble_eq_true rfl) ?_
  intro p e s m args below meth c A ls hE
  obtain ⟨hx, hb, hr, hml, hts, hown, hlocks, hA, hS, hP, hK, hD, hG, hl⟩ := hE
  have hl : lv_has ls 2 [(0, .ref h0), (1, .int x)] := hl
  have hH : s.heap = s.heap := rfl
  refine lv_iload_n hx hb dX10_isTrack_0 rfl (lv_at hl 1 rfl) ?_
  refine lv_iconst (v := nI 0) hx hb dX10_isTrack_1 (by decide) ?_
  refine lv_aload_n hx hb dX10_isTrack_2 rfl (lv_at hl 0 rfl) ?_
  refine va_get (D := D) (ci := 11) (v := .ref q) (C := RX10) (T := TX10) (N := 8) hx hb hts n_X10_isTrack_e_X10 hown hK hP 0 rfl rfl 1 (by decide) (wAt hts 1 (w := .fieldLink RX10 10 "FluxBenchModel" "tracks" "Ljava/util/ArrayList;") rfl) (fun _ h9 => h9) rfl dX10_isTrack_3 ?_
  have hF := va_free (wc := [(q, .inr (1, [.int (nI 0), .ref z, .int (nI 0)]))]) hD hS hA [1] rfl
  refine va_calli (va_runV (As := []) (rest := [.int (nI 0), .int x]) ⟨hx, hb, hml, hown, hts⟩ (c_Jx4a65c_size_8abf5 l D kA z q z 0 (nI 0)  _) (cwV 0 hts h_X10_isTrack_e_0 rfl rfl rfl (by decide +kernel) ⟨Nat.le_of_ble_eq_true rfl, Nat.le_of_ble_eq_true rfl⟩) (fPv hK hP hD hS hG hF [1] (by decide) rfl 1 1 rfl rfl rfl) rfl rfl hl.1 rfl (lv_room (Nat.le_of_ble_eq_true rfl)) dX10_isTrack_6 ⟨Nat.le_of_ble_eq_true rfl, Nat.le_of_ble_eq_true rfl⟩) hS (fun q _ h => hF q h) hF (fun r_1 w1 t H locs ht hvm hw hB hz1 hk1 hS => ?_)
  obtain ⟨hP, hD⟩ := fJ (wr := [(h0, .inr (11, [.int th, .ref q, .int (nI 8), .int (nI 0), .int (nI 0), .int (nI 0), .int (nI 0), .long 0]))]) hP hD [1] [0] rfl rfl (by decide) (by decide) hk1 hF ht hB
  try dsimp only at hw
  obtain ⟨rfl, e_1⟩ := hw
  replace e_1 := e_1.symm
  subst e_1
  have hP : va_P D vwCl [(h0, .inr (11, [.int th, .ref q, .int (nI 8), .int (nI 0), .int (nI 0), .int (nI 0), .int (nI 0), .long 0])), (q, .inr (1, [.int (nI 0), .ref z, .int (nI 0)]))] H := hP
  have hD : va_D A [(h0, .inr (11, [.int th, .ref q, .int (nI 8), .int (nI 0), .int (nI 0), .int (nI 0), .int (nI 0), .long 0])), (q, .inr (1, [.int (nI 0), .ref z, .int (nI 0)]))] := hD
  refine lv_iconst (v := nI 1) hx hb dX10_isTrack_9 (by decide) ?_
  refine lv_isub hx hb dX10_isTrack_10 ?_
  have hF := va_free (wc := []) hD hS hA [] rfl
  refine va_calli (va_runS (As := [.int x, .int (nI 0), .int ((nI 0) - (nI 1))]) (rest := []) ⟨hx, hb, hml, hown, hts⟩ (c_X10_is l D kA z x (nI 0) ((nI 0) - (nI 1))  _) (va_cwS 3 hts h_X10_isTrack_e_1 rfl rfl rfl (by decide +kernel) ⟨Nat.le_of_ble_eq_true rfl, Nat.le_of_ble_eq_true rfl⟩) (fPs hK hP hD hS hG hF [] (by decide) rfl) rfl rfl hl.1 rfl (lv_room (Nat.le_of_ble_eq_true rfl)) dX10_isTrack_11 ⟨Nat.le_of_ble_eq_true rfl, Nat.le_of_ble_eq_true rfl⟩) hS (fun q _ h => hF q h) hF (fun r_2 w1 t H locs ht hvm hw hB hz1 hk1 hS => ?_)
  obtain ⟨hP, hD⟩ := fJ (wr := [(h0, .inr (11, [.int th, .ref q, .int (nI 8), .int (nI 0), .int (nI 0), .int (nI 0), .int (nI 0), .long 0])), (q, .inr (1, [.int (nI 0), .ref z, .int (nI 0)]))]) hP hD [] [0, 1] rfl rfl (by decide) (by decide) hk1 hF ht hB
  try dsimp only at hw
  obtain ⟨rfl, e_2⟩ := hw
  replace e_2 := e_2.symm
  subst e_2
  have hP : va_P D vwCl [(h0, .inr (11, [.int th, .ref q, .int (nI 8), .int (nI 0), .int (nI 0), .int (nI 0), .int (nI 0), .long 0])), (q, .inr (1, [.int (nI 0), .ref z, .int (nI 0)]))] H := hP
  have hD : va_D A [(h0, .inr (11, [.int th, .ref q, .int (nI 8), .int (nI 0), .int (nI 0), .int (nI 0), .int (nI 0), .long 0])), (q, .inr (1, [.int (nI 0), .ref z, .int (nI 0)]))] := hD
  rw [isE]
  exact endZ hx hb hr hlocks (rfl) hK hP hD hS (⟨rfl, by first | rfl | assumption | omega | (rw [if_pos (by omega)]; first | done | rfl) | (rw [if_neg (by omega)]; first | done | rfl)⟩) (Nat.le_of_ble_eq_true rfl) (Nat.le_of_ble_eq_true rfl) dX10_isTrack_14

def wq_X10_isPlace_e : List Cond := .code yX10_isPlace cX10_isPlace 3 (some .boolean) :: (([.methodLink RX10 44 yX10_isTrack, .instanceMethod yX10_isTrack, .selects RX10 yX10_isTrack yX10_isTrack, .initialized RX10] : List Cond) ++ (wq_X10_isTrack_e ++ ([] : List Cond)))
theorem gd_X10_isPlace_e : wq_X10_isPlace_e.all goodWord = true := by decide +kernel
theorem h_X10_isPlace_e_0 : GoodIn wq_X10_isPlace_e (wsV RX10 44 RX10 yX10_isTrack wq_X10_isTrack_e) := goodIn_app (goodIn_r _ [1, 2, 3, 4] (by decide +kernel) (by decide +kernel)) (goodIn_sub (fun w h => List.mem_cons_of_mem _ (List.mem_append_right _ (List.mem_append_left _ h))) gd_X10_isTrack_e)
set_option maxHeartbeats 4000000 in
set_option maxRecDepth 100000 in
theorem c_X10_isPlace_e (l : Launch) (D : va_G) (kA : Nat → ClassId) (z : Nat) (h0 q : Nat) (th x y : Int32)  : mI l D (tyL kA) z yX10_isPlace wq_X10_isPlace_e ({ frames := 2, cells := 0, slots := 0, locals := 60 }) [.ref h0, .int x, .int y] [(h0, .inr (11, [.int th, .ref q, .int (nI 8), .int (nI 0), .int (nI 0), .int (nI 0), .int (nI 0), .long 0])), (q, .inr (1, [.int (nI 0), .ref z, .int (nI 0)]))] (fun r w => w = [(h0, .inr (11, [.int th, .ref q, .int (nI 8), .int (nI 0), .int (nI 0), .int (nI 0), .int (nI 0), .long 0])), (q, .inr (1, [.int (nI 0), .ref z, .int (nI 0)]))] ∧ r = nI 0) := by
  refine ofI (cc := cX10_isPlace) (maxL := 3) RX10 rfl (by decide +kernel) rfl (Nat.le_of_ble_eq_true rfl) ?_
  intro p e s m args below meth c A ls hE
  obtain ⟨hx, hb, hr, hml, hts, hown, hlocks, hA, hS, hP, hK, hD, hG, hl⟩ := hE
  have hl : lv_has ls 3 [(0, .ref h0), (1, .int x), (2, .int y)] := hl
  have hH : s.heap = s.heap := rfl
  refine lv_aload_n hx hb dX10_isPlace_0 rfl (lv_at hl 0 rfl) ?_
  refine lv_iload_n hx hb dX10_isPlace_1 rfl (lv_at hl 1 rfl) ?_
  have hF := va_free (wc := [(h0, .inr (11, [.int th, .ref q, .int (nI 8), .int (nI 0), .int (nI 0), .int (nI 0), .int (nI 0), .long 0])), (q, .inr (1, [.int (nI 0), .ref z, .int (nI 0)]))]) hD hS hA [0, 1] rfl
  refine va_calli (va_runV (As := [.int x]) (rest := []) ⟨hx, hb, hml, hown, hts⟩ (c_X10_isTrack_e l D kA z h0 q th x  _) (cwV 1 hts h_X10_isPlace_e_0 rfl rfl rfl (by decide +kernel) ⟨Nat.le_of_ble_eq_true rfl, Nat.le_of_ble_eq_true rfl⟩) (fPv hK hP hD hS hG hF [0, 1] (by decide) rfl 0 11 rfl rfl rfl) rfl rfl hl.1 rfl (lv_room (Nat.le_of_ble_eq_true rfl)) dX10_isPlace_2 ⟨Nat.le_of_ble_eq_true rfl, Nat.le_of_ble_eq_true rfl⟩) hS (fun q _ h => hF q h) hF (fun r_1 w1 t H locs ht hvm hw hB hz1 hk1 hS => ?_)
  obtain ⟨hP, hD⟩ := fJ (wr := []) hP hD [0, 1] [] rfl rfl (by decide) (by decide) hk1 hF ht hB
  try dsimp only at hw
  obtain ⟨rfl, e_1⟩ := hw
  replace e_1 := e_1.symm
  subst e_1
  have hP : va_P D vwCl [(h0, .inr (11, [.int th, .ref q, .int (nI 8), .int (nI 0), .int (nI 0), .int (nI 0), .int (nI 0), .long 0])), (q, .inr (1, [.int (nI 0), .ref z, .int (nI 0)]))] H := hP
  have hD : va_D A [(h0, .inr (11, [.int th, .ref q, .int (nI 8), .int (nI 0), .int (nI 0), .int (nI 0), .int (nI 0), .long 0])), (q, .inr (1, [.int (nI 0), .ref z, .int (nI 0)]))] := hD
  refine lv_if_eq (tgt := 36) hx hb dX10_isPlace_5 (by decide) (fun _ => ?_) (fun c5 => absurd (by decide) c5)
  refine lv_iconst (v := nI 0) hx hb dX10_isPlace_36 (by decide) ?_
  exact endZ hx hb hr hlocks (rfl) hK hP hD hS (⟨rfl, by first | rfl | assumption | omega | (rw [if_pos (by omega)]; first | done | rfl) | (rw [if_neg (by omega)]; first | done | rfl)⟩) (Nat.le_of_ble_eq_true rfl) (Nat.le_of_ble_eq_true rfl) dX10_isPlace_37

def wq_X10_isTurn_e : List Cond := .code yX10_isTurn cX10_isTurn 3 (some .boolean) :: (([.methodLink RX10 44 yX10_isTrack, .instanceMethod yX10_isTrack, .selects RX10 yX10_isTrack yX10_isTrack, .initialized RX10] : List Cond) ++ (wq_X10_isTrack_e ++ ([] : List Cond)))
theorem gd_X10_isTurn_e : wq_X10_isTurn_e.all goodWord = true := by decide +kernel
theorem h_X10_isTurn_e_0 : GoodIn wq_X10_isTurn_e (wsV RX10 44 RX10 yX10_isTrack wq_X10_isTrack_e) := goodIn_app (goodIn_r _ [1, 2, 3, 4] (by decide +kernel) (by decide +kernel)) (goodIn_sub (fun w h => List.mem_cons_of_mem _ (List.mem_append_right _ (List.mem_append_left _ h))) gd_X10_isTrack_e)
set_option maxHeartbeats 4000000 in
set_option maxRecDepth 100000 in
theorem c_X10_isTurn_e (l : Launch) (D : va_G) (kA : Nat → ClassId) (z : Nat) (h0 q : Nat) (th x y : Int32)  : mI l D (tyL kA) z yX10_isTurn wq_X10_isTurn_e ({ frames := 2, cells := 0, slots := 0, locals := 60 }) [.ref h0, .int x, .int y] [(h0, .inr (11, [.int th, .ref q, .int (nI 8), .int (nI 0), .int (nI 0), .int (nI 0), .int (nI 0), .long 0])), (q, .inr (1, [.int (nI 0), .ref z, .int (nI 0)]))] (fun r w => w = [(h0, .inr (11, [.int th, .ref q, .int (nI 8), .int (nI 0), .int (nI 0), .int (nI 0), .int (nI 0), .long 0])), (q, .inr (1, [.int (nI 0), .ref z, .int (nI 0)]))] ∧ r = nI 0) := by
  refine ofI (cc := cX10_isTurn) (maxL := 3) RX10 rfl (by decide +kernel) rfl (Nat.le_of_ble_eq_true rfl) ?_
  intro p e s m args below meth c A ls hE
  obtain ⟨hx, hb, hr, hml, hts, hown, hlocks, hA, hS, hP, hK, hD, hG, hl⟩ := hE
  have hl : lv_has ls 3 [(0, .ref h0), (1, .int x), (2, .int y)] := hl
  have hH : s.heap = s.heap := rfl
  refine lv_aload_n hx hb dX10_isTurn_0 rfl (lv_at hl 0 rfl) ?_
  refine lv_iload_n hx hb dX10_isTurn_1 rfl (lv_at hl 1 rfl) ?_
  have hF := va_free (wc := [(h0, .inr (11, [.int th, .ref q, .int (nI 8), .int (nI 0), .int (nI 0), .int (nI 0), .int (nI 0), .long 0])), (q, .inr (1, [.int (nI 0), .ref z, .int (nI 0)]))]) hD hS hA [0, 1] rfl
  refine va_calli (va_runV (As := [.int x]) (rest := []) ⟨hx, hb, hml, hown, hts⟩ (c_X10_isTrack_e l D kA z h0 q th x  _) (cwV 1 hts h_X10_isTurn_e_0 rfl rfl rfl (by decide +kernel) ⟨Nat.le_of_ble_eq_true rfl, Nat.le_of_ble_eq_true rfl⟩) (fPv hK hP hD hS hG hF [0, 1] (by decide) rfl 0 11 rfl rfl rfl) rfl rfl hl.1 rfl (lv_room (Nat.le_of_ble_eq_true rfl)) dX10_isTurn_2 ⟨Nat.le_of_ble_eq_true rfl, Nat.le_of_ble_eq_true rfl⟩) hS (fun q _ h => hF q h) hF (fun r_1 w1 t H locs ht hvm hw hB hz1 hk1 hS => ?_)
  obtain ⟨hP, hD⟩ := fJ (wr := []) hP hD [0, 1] [] rfl rfl (by decide) (by decide) hk1 hF ht hB
  try dsimp only at hw
  obtain ⟨rfl, e_1⟩ := hw
  replace e_1 := e_1.symm
  subst e_1
  have hP : va_P D vwCl [(h0, .inr (11, [.int th, .ref q, .int (nI 8), .int (nI 0), .int (nI 0), .int (nI 0), .int (nI 0), .long 0])), (q, .inr (1, [.int (nI 0), .ref z, .int (nI 0)]))] H := hP
  have hD : va_D A [(h0, .inr (11, [.int th, .ref q, .int (nI 8), .int (nI 0), .int (nI 0), .int (nI 0), .int (nI 0), .long 0])), (q, .inr (1, [.int (nI 0), .ref z, .int (nI 0)]))] := hD
  refine lv_if_eq (tgt := 39) hx hb dX10_isTurn_5 (by decide) (fun _ => ?_) (fun c5 => absurd (by decide) c5)
  refine lv_iconst (v := nI 0) hx hb dX10_isTurn_39 (by decide) ?_
  exact endZ hx hb hr hlocks (rfl) hK hP hD hS (⟨rfl, by first | rfl | assumption | omega | (rw [if_pos (by omega)]; first | done | rfl) | (rw [if_neg (by omega)]; first | done | rfl)⟩) (Nat.le_of_ble_eq_true rfl) (Nat.le_of_ble_eq_true rfl) dX10_isTurn_40

def wq_X10_write_e : List Cond := .code yX10_write cX10_write 4 (some .int) :: (([.fieldLink RX10 20 "FluxBenchModel" "thrown" "I", .methodLink RX10 44 yX10_isTrack, .instanceMethod yX10_isTrack, .selects RX10 yX10_isTrack yX10_isTrack, .initialized RX10, .methodLink RX10 31 yX10_refuse, .instanceMethod yX10_refuse, .selects RX10 yX10_refuse yX10_refuse] : List Cond) ++ (u_ws RX10 TX10 8 ++ (wq_X10_isTrack_e ++ (wq_X10_refuse ++ ([] : List Cond)))))
theorem gd_X10_write_e : wq_X10_write_e.all goodWord = true := by decide +kernel
theorem n_X10_write_e_X10 : ∀ w ∈ u_ws RX10 TX10 8, w ∈ wq_X10_write_e := fun w h => List.mem_cons_of_mem _ (List.mem_append_right _ (List.mem_append_left _ h))
theorem h_X10_write_e_0 : GoodIn wq_X10_write_e (wsV RX10 44 RX10 yX10_isTrack wq_X10_isTrack_e) := goodIn_app (goodIn_r _ [2, 3, 4, 5] (by decide +kernel) (by decide +kernel)) (goodIn_sub (fun w h => List.mem_cons_of_mem _ (List.mem_append_right _ (List.mem_append_right _ (List.mem_append_left _ h)))) gd_X10_isTrack_e)
theorem h_X10_write_e_1 : GoodIn wq_X10_write_e (wsV RX10 31 RX10 yX10_refuse wq_X10_refuse) := goodIn_app (goodIn_r _ [6, 7, 8, 5] (by decide +kernel) (by decide +kernel)) (goodIn_sub (fun w h => List.mem_cons_of_mem _ (List.mem_append_right _ (List.mem_append_right _ (List.mem_append_right _ (List.mem_append_left _ h))))) gd_X10_refuse)
set_option maxHeartbeats 4000000 in
set_option maxRecDepth 100000 in
theorem c_X10_write_e (l : Launch) (D : va_G) (kA : Nat → ClassId) (z : Nat) (h0 q : Nat) (th x0 x1 : Int32)  : mI l D (tyL kA) z yX10_write wq_X10_write_e ({ frames := 3, cells := 0, slots := 0, locals := 90 }) [.ref h0, .int x0, .int x1] [(h0, .inr (11, [.int th, .ref q, .int (nI 8), .int (nI 0), .int (nI 0), .int (nI 0), .int (nI 0), .long 0])), (q, .inr (1, [.int (nI 0), .ref z, .int (nI 0)]))] (fun r w => w = [(h0, .inr (11, [.int (nI 1), .ref q, .int (nI 8), .int (nI 0), .int (nI 0), .int (nI 0), .int (nI 0), .long 0])), (q, .inr (1, [.int (nI 0), .ref z, .int (nI 0)]))]) := by
  refine ofI (cc := cX10_write) (maxL := 4) RX10 rfl (by decide +kernel) rfl (Nat.le_of_ble_eq_true rfl) ?_
  intro p e s m args below meth c A ls hE
  obtain ⟨hx, hb, hr, hml, hts, hown, hlocks, hA, hS, hP, hK, hD, hG, hl⟩ := hE
  have hl : lv_has ls 4 [(0, .ref h0), (1, .int x0), (2, .int x1)] := hl
  have hH : s.heap = s.heap := rfl
  refine lv_aload_n hx hb dX10_write_0 rfl (lv_at hl 0 rfl) ?_
  refine lv_iconst (v := nI 0) hx hb dX10_write_1 (by decide) ?_
  refine va_put (D := D) (ci := 11) (v := .int (nI 0)) (ty := .int) (C := RX10) (T := TX10) (N := 8) hx hb hts n_X10_write_e_X10 tyX10 tyX10_ok nmX10 hown hK hP hD hS 0 rfl rfl 0 (by decide) (wAt hts 1 (w := .fieldLink RX10 20 "FluxBenchModel" "thrown" "I") rfl) (fun _ h9 => h9) rfl (by decide +kernel) rfl rfl (Nat.le_of_ble_eq_true rfl) dX10_write_2 (fun H locs hP hD hS => ?_)
  have hP : va_P D vwCl [(h0, .inr (11, [.int (nI 0), .ref q, .int (nI 8), .int (nI 0), .int (nI 0), .int (nI 0), .int (nI 0), .long 0])), (q, .inr (1, [.int (nI 0), .ref z, .int (nI 0)]))] H := hP
  have hD : va_D A [(h0, .inr (11, [.int (nI 0), .ref q, .int (nI 8), .int (nI 0), .int (nI 0), .int (nI 0), .int (nI 0), .long 0])), (q, .inr (1, [.int (nI 0), .ref z, .int (nI 0)]))] := hD
  refine lv_aload_n hx hb dX10_write_5 rfl (lv_at hl 0 rfl) ?_
  refine lv_iload_n hx hb dX10_write_6 rfl (lv_at hl 1 rfl) ?_
  have hF := va_free (wc := [(h0, .inr (11, [.int (nI 0), .ref q, .int (nI 8), .int (nI 0), .int (nI 0), .int (nI 0), .int (nI 0), .long 0])), (q, .inr (1, [.int (nI 0), .ref z, .int (nI 0)]))]) hD hS hA [0, 1] rfl
  refine va_calli (va_runV (As := [.int x0]) (rest := []) ⟨hx, hb, hml, hown, hts⟩ (c_X10_isTrack_e l D kA z h0 q (nI 0) x0  _) (cwV 1 hts h_X10_write_e_0 rfl rfl rfl (by decide +kernel) ⟨Nat.le_of_ble_eq_true rfl, Nat.le_of_ble_eq_true rfl⟩) (fPv hK hP hD hS hG hF [0, 1] (by decide) rfl 0 11 rfl rfl rfl) rfl rfl hl.1 rfl (lv_room (Nat.le_of_ble_eq_true rfl)) dX10_write_7 ⟨Nat.le_of_ble_eq_true rfl, Nat.le_of_ble_eq_true rfl⟩) hS (fun q _ h => hF q h) hF (fun r_1 w1 t H locs ht hvm hw hB hz1 hk1 hS => ?_)
  obtain ⟨hP, hD⟩ := fJ (wr := []) hP hD [0, 1] [] rfl rfl (by decide) (by decide) hk1 hF ht hB
  try dsimp only at hw
  obtain ⟨rfl, e_1⟩ := hw
  replace e_1 := e_1.symm
  subst e_1
  have hP : va_P D vwCl [(h0, .inr (11, [.int (nI 0), .ref q, .int (nI 8), .int (nI 0), .int (nI 0), .int (nI 0), .int (nI 0), .long 0])), (q, .inr (1, [.int (nI 0), .ref z, .int (nI 0)]))] H := hP
  have hD : va_D A [(h0, .inr (11, [.int (nI 0), .ref q, .int (nI 8), .int (nI 0), .int (nI 0), .int (nI 0), .int (nI 0), .long 0])), (q, .inr (1, [.int (nI 0), .ref z, .int (nI 0)]))] := hD
  refine lv_if_ne (tgt := 19) hx hb dX10_write_10 (by decide) (fun c10 => absurd (by decide) c10) (fun _ => ?_)
  refine lv_aload_n hx hb dX10_write_13 rfl (lv_at hl 0 rfl) ?_
  refine lv_iconst (v := nI 1) hx hb dX10_write_14 (by decide) ?_
  have hF := va_free (wc := [(h0, .inr (11, [.int (nI 0), .ref q, .int (nI 8), .int (nI 0), .int (nI 0), .int (nI 0), .int (nI 0), .long 0]))]) hD hS hA [0] rfl
  refine va_calli (va_runV (As := [.int (nI 1)]) (rest := []) ⟨hx, hb, hml, hown, hts⟩ (c_X10_refuse l D kA z h0 q (nI 1) (nI 0) (nI 8) (nI 0) (nI 0) (nI 0) (nI 0) 0  _) (cwV 1 hts h_X10_write_e_1 rfl rfl rfl (by decide +kernel) ⟨Nat.le_of_ble_eq_true rfl, Nat.le_of_ble_eq_true rfl⟩) (fPv hK hP hD hS hG hF [0] (by decide) rfl 0 11 rfl rfl rfl) rfl rfl hl.1 rfl (lv_room (Nat.le_of_ble_eq_true rfl)) dX10_write_15 ⟨Nat.le_of_ble_eq_true rfl, Nat.le_of_ble_eq_true rfl⟩) hS (fun q _ h => hF q h) hF (fun r_2 w1 t H locs ht hvm hw hB hz1 hk1 hS => ?_)
  obtain ⟨hP, hD⟩ := fJ (wr := [(q, .inr (1, [.int (nI 0), .ref z, .int (nI 0)]))]) hP hD [0] [1] rfl rfl (by decide) (by decide) hk1 hF ht hB
  try dsimp only at hw
  obtain ⟨rfl, e_2⟩ := hw
  replace e_2 := e_2.symm
  subst e_2
  have hP : va_P D vwCl [(q, .inr (1, [.int (nI 0), .ref z, .int (nI 0)])), (h0, .inr (11, [.int (nI 1), .ref q, .int (nI 8), .int (nI 0), .int (nI 0), .int (nI 0), .int (nI 0), .long 0]))] H := hP
  have hD : va_D A [(q, .inr (1, [.int (nI 0), .ref z, .int (nI 0)])), (h0, .inr (11, [.int (nI 1), .ref q, .int (nI 8), .int (nI 0), .int (nI 0), .int (nI 0), .int (nI 0), .long 0]))] := hD
  have hP := hP.sub (ws' := [(h0, .inr (11, [.int (nI 1), .ref q, .int (nI 8), .int (nI 0), .int (nI 0), .int (nI 0), .int (nI 0), .long 0])), (q, .inr (1, [.int (nI 0), .ref z, .int (nI 0)]))]) [1, 0] rfl
  have hD := hD.sub (ws' := [(h0, .inr (11, [.int (nI 1), .ref q, .int (nI 8), .int (nI 0), .int (nI 0), .int (nI 0), .int (nI 0), .long 0])), (q, .inr (1, [.int (nI 0), .ref z, .int (nI 0)]))]) [1, 0] (by decide) rfl
  exact endI hx hb hr hlocks hK hP hD hS (rfl) (Nat.le_of_ble_eq_true rfl) (Nat.le_of_ble_eq_true rfl) dX10_write_18

def wq_X10_mark_e : List Cond := .code yX10_mark cX10_mark 3 (some .int) :: (([.fieldLink RX10 20 "FluxBenchModel" "thrown" "I", .methodLink RX10 44 yX10_isTrack, .instanceMethod yX10_isTrack, .selects RX10 yX10_isTrack yX10_isTrack, .initialized RX10, .methodLink RX10 31 yX10_refuse, .instanceMethod yX10_refuse, .selects RX10 yX10_refuse yX10_refuse] : List Cond) ++ (u_ws RX10 TX10 8 ++ (wq_X10_isTrack_e ++ (wq_X10_refuse ++ ([] : List Cond)))))
theorem gd_X10_mark_e : wq_X10_mark_e.all goodWord = true := by decide +kernel
theorem n_X10_mark_e_X10 : ∀ w ∈ u_ws RX10 TX10 8, w ∈ wq_X10_mark_e := fun w h => List.mem_cons_of_mem _ (List.mem_append_right _ (List.mem_append_left _ h))
theorem h_X10_mark_e_0 : GoodIn wq_X10_mark_e (wsV RX10 44 RX10 yX10_isTrack wq_X10_isTrack_e) := goodIn_app (goodIn_r _ [2, 3, 4, 5] (by decide +kernel) (by decide +kernel)) (goodIn_sub (fun w h => List.mem_cons_of_mem _ (List.mem_append_right _ (List.mem_append_right _ (List.mem_append_left _ h)))) gd_X10_isTrack_e)
theorem h_X10_mark_e_1 : GoodIn wq_X10_mark_e (wsV RX10 31 RX10 yX10_refuse wq_X10_refuse) := goodIn_app (goodIn_r _ [6, 7, 8, 5] (by decide +kernel) (by decide +kernel)) (goodIn_sub (fun w h => List.mem_cons_of_mem _ (List.mem_append_right _ (List.mem_append_right _ (List.mem_append_right _ (List.mem_append_left _ h))))) gd_X10_refuse)
set_option maxHeartbeats 4000000 in
set_option maxRecDepth 100000 in
theorem c_X10_mark_e (l : Launch) (D : va_G) (kA : Nat → ClassId) (z : Nat) (h0 q : Nat) (th x0 : Int32)  : mI l D (tyL kA) z yX10_mark wq_X10_mark_e ({ frames := 3, cells := 0, slots := 0, locals := 90 }) [.ref h0, .int x0] [(h0, .inr (11, [.int th, .ref q, .int (nI 8), .int (nI 0), .int (nI 0), .int (nI 0), .int (nI 0), .long 0])), (q, .inr (1, [.int (nI 0), .ref z, .int (nI 0)]))] (fun r w => w = [(h0, .inr (11, [.int (nI 1), .ref q, .int (nI 8), .int (nI 0), .int (nI 0), .int (nI 0), .int (nI 0), .long 0])), (q, .inr (1, [.int (nI 0), .ref z, .int (nI 0)]))]) := by
  refine ofI (cc := cX10_mark) (maxL := 3) RX10 rfl (by decide +kernel) rfl (Nat.le_of_ble_eq_true rfl) ?_
  intro p e s m args below meth c A ls hE
  obtain ⟨hx, hb, hr, hml, hts, hown, hlocks, hA, hS, hP, hK, hD, hG, hl⟩ := hE
  have hl : lv_has ls 3 [(0, .ref h0), (1, .int x0)] := hl
  have hH : s.heap = s.heap := rfl
  refine lv_aload_n hx hb dX10_mark_0 rfl (lv_at hl 0 rfl) ?_
  refine lv_iconst (v := nI 0) hx hb dX10_mark_1 (by decide) ?_
  refine va_put (D := D) (ci := 11) (v := .int (nI 0)) (ty := .int) (C := RX10) (T := TX10) (N := 8) hx hb hts n_X10_mark_e_X10 tyX10 tyX10_ok nmX10 hown hK hP hD hS 0 rfl rfl 0 (by decide) (wAt hts 1 (w := .fieldLink RX10 20 "FluxBenchModel" "thrown" "I") rfl) (fun _ h9 => h9) rfl (by decide +kernel) rfl rfl (Nat.le_of_ble_eq_true rfl) dX10_mark_2 (fun H locs hP hD hS => ?_)
  have hP : va_P D vwCl [(h0, .inr (11, [.int (nI 0), .ref q, .int (nI 8), .int (nI 0), .int (nI 0), .int (nI 0), .int (nI 0), .long 0])), (q, .inr (1, [.int (nI 0), .ref z, .int (nI 0)]))] H := hP
  have hD : va_D A [(h0, .inr (11, [.int (nI 0), .ref q, .int (nI 8), .int (nI 0), .int (nI 0), .int (nI 0), .int (nI 0), .long 0])), (q, .inr (1, [.int (nI 0), .ref z, .int (nI 0)]))] := hD
  refine lv_aload_n hx hb dX10_mark_5 rfl (lv_at hl 0 rfl) ?_
  refine lv_iload_n hx hb dX10_mark_6 rfl (lv_at hl 1 rfl) ?_
  have hF := va_free (wc := [(h0, .inr (11, [.int (nI 0), .ref q, .int (nI 8), .int (nI 0), .int (nI 0), .int (nI 0), .int (nI 0), .long 0])), (q, .inr (1, [.int (nI 0), .ref z, .int (nI 0)]))]) hD hS hA [0, 1] rfl
  refine va_calli (va_runV (As := [.int x0]) (rest := []) ⟨hx, hb, hml, hown, hts⟩ (c_X10_isTrack_e l D kA z h0 q (nI 0) x0  _) (cwV 1 hts h_X10_mark_e_0 rfl rfl rfl (by decide +kernel) ⟨Nat.le_of_ble_eq_true rfl, Nat.le_of_ble_eq_true rfl⟩) (fPv hK hP hD hS hG hF [0, 1] (by decide) rfl 0 11 rfl rfl rfl) rfl rfl hl.1 rfl (lv_room (Nat.le_of_ble_eq_true rfl)) dX10_mark_7 ⟨Nat.le_of_ble_eq_true rfl, Nat.le_of_ble_eq_true rfl⟩) hS (fun q _ h => hF q h) hF (fun r_1 w1 t H locs ht hvm hw hB hz1 hk1 hS => ?_)
  obtain ⟨hP, hD⟩ := fJ (wr := []) hP hD [0, 1] [] rfl rfl (by decide) (by decide) hk1 hF ht hB
  try dsimp only at hw
  obtain ⟨rfl, e_1⟩ := hw
  replace e_1 := e_1.symm
  subst e_1
  have hP : va_P D vwCl [(h0, .inr (11, [.int (nI 0), .ref q, .int (nI 8), .int (nI 0), .int (nI 0), .int (nI 0), .int (nI 0), .long 0])), (q, .inr (1, [.int (nI 0), .ref z, .int (nI 0)]))] H := hP
  have hD : va_D A [(h0, .inr (11, [.int (nI 0), .ref q, .int (nI 8), .int (nI 0), .int (nI 0), .int (nI 0), .int (nI 0), .long 0])), (q, .inr (1, [.int (nI 0), .ref z, .int (nI 0)]))] := hD
  refine lv_if_ne (tgt := 19) hx hb dX10_mark_10 (by decide) (fun c10 => absurd (by decide) c10) (fun _ => ?_)
  refine lv_aload_n hx hb dX10_mark_13 rfl (lv_at hl 0 rfl) ?_
  refine lv_iconst (v := nI 1) hx hb dX10_mark_14 (by decide) ?_
  have hF := va_free (wc := [(h0, .inr (11, [.int (nI 0), .ref q, .int (nI 8), .int (nI 0), .int (nI 0), .int (nI 0), .int (nI 0), .long 0]))]) hD hS hA [0] rfl
  refine va_calli (va_runV (As := [.int (nI 1)]) (rest := []) ⟨hx, hb, hml, hown, hts⟩ (c_X10_refuse l D kA z h0 q (nI 1) (nI 0) (nI 8) (nI 0) (nI 0) (nI 0) (nI 0) 0  _) (cwV 1 hts h_X10_mark_e_1 rfl rfl rfl (by decide +kernel) ⟨Nat.le_of_ble_eq_true rfl, Nat.le_of_ble_eq_true rfl⟩) (fPv hK hP hD hS hG hF [0] (by decide) rfl 0 11 rfl rfl rfl) rfl rfl hl.1 rfl (lv_room (Nat.le_of_ble_eq_true rfl)) dX10_mark_15 ⟨Nat.le_of_ble_eq_true rfl, Nat.le_of_ble_eq_true rfl⟩) hS (fun q _ h => hF q h) hF (fun r_2 w1 t H locs ht hvm hw hB hz1 hk1 hS => ?_)
  obtain ⟨hP, hD⟩ := fJ (wr := [(q, .inr (1, [.int (nI 0), .ref z, .int (nI 0)]))]) hP hD [0] [1] rfl rfl (by decide) (by decide) hk1 hF ht hB
  try dsimp only at hw
  obtain ⟨rfl, e_2⟩ := hw
  replace e_2 := e_2.symm
  subst e_2
  have hP : va_P D vwCl [(q, .inr (1, [.int (nI 0), .ref z, .int (nI 0)])), (h0, .inr (11, [.int (nI 1), .ref q, .int (nI 8), .int (nI 0), .int (nI 0), .int (nI 0), .int (nI 0), .long 0]))] H := hP
  have hD : va_D A [(q, .inr (1, [.int (nI 0), .ref z, .int (nI 0)])), (h0, .inr (11, [.int (nI 1), .ref q, .int (nI 8), .int (nI 0), .int (nI 0), .int (nI 0), .int (nI 0), .long 0]))] := hD
  have hP := hP.sub (ws' := [(h0, .inr (11, [.int (nI 1), .ref q, .int (nI 8), .int (nI 0), .int (nI 0), .int (nI 0), .int (nI 0), .long 0])), (q, .inr (1, [.int (nI 0), .ref z, .int (nI 0)]))]) [1, 0] rfl
  have hD := hD.sub (ws' := [(h0, .inr (11, [.int (nI 1), .ref q, .int (nI 8), .int (nI 0), .int (nI 0), .int (nI 0), .int (nI 0), .long 0])), (q, .inr (1, [.int (nI 0), .ref z, .int (nI 0)]))]) [1, 0] (by decide) rfl
  exact endI hx hb hr hlocks hK hP hD hS (rfl) (Nat.le_of_ble_eq_true rfl) (Nat.le_of_ble_eq_true rfl) dX10_mark_18

def wq_X10_sector_e : List Cond := .code yX10_sector cX10_sector 8 (some .int) :: (([.fieldLink RX10 20 "FluxBenchModel" "thrown" "I", .methodLink RX10 44 yX10_isTrack, .instanceMethod yX10_isTrack, .selects RX10 yX10_isTrack yX10_isTrack, .initialized RX10, .methodLink RX10 31 yX10_refuse, .instanceMethod yX10_refuse, .selects RX10 yX10_refuse yX10_refuse] : List Cond) ++ (u_ws RX10 TX10 8 ++ (wq_X10_isTrack_e ++ (wq_X10_refuse ++ ([] : List Cond)))))
theorem gd_X10_sector_e : wq_X10_sector_e.all goodWord = true := by decide +kernel
theorem n_X10_sector_e_X10 : ∀ w ∈ u_ws RX10 TX10 8, w ∈ wq_X10_sector_e := fun w h => List.mem_cons_of_mem _ (List.mem_append_right _ (List.mem_append_left _ h))
theorem h_X10_sector_e_0 : GoodIn wq_X10_sector_e (wsV RX10 44 RX10 yX10_isTrack wq_X10_isTrack_e) := goodIn_app (goodIn_r _ [2, 3, 4, 5] (by decide +kernel) (by decide +kernel)) (goodIn_sub (fun w h => List.mem_cons_of_mem _ (List.mem_append_right _ (List.mem_append_right _ (List.mem_append_left _ h)))) gd_X10_isTrack_e)
theorem h_X10_sector_e_1 : GoodIn wq_X10_sector_e (wsV RX10 31 RX10 yX10_refuse wq_X10_refuse) := goodIn_app (goodIn_r _ [6, 7, 8, 5] (by decide +kernel) (by decide +kernel)) (goodIn_sub (fun w h => List.mem_cons_of_mem _ (List.mem_append_right _ (List.mem_append_right _ (List.mem_append_right _ (List.mem_append_left _ h))))) gd_X10_refuse)
set_option maxHeartbeats 4000000 in
set_option maxRecDepth 100000 in
theorem c_X10_sector_e (l : Launch) (D : va_G) (kA : Nat → ClassId) (z : Nat) (h0 q : Nat) (th x0 x1 x2 x3 x4 : Int32)  : mI l D (tyL kA) z yX10_sector wq_X10_sector_e ({ frames := 3, cells := 0, slots := 0, locals := 90 }) [.ref h0, .int x0, .int x1, .int x2, .int x3, .int x4] [(h0, .inr (11, [.int th, .ref q, .int (nI 8), .int (nI 0), .int (nI 0), .int (nI 0), .int (nI 0), .long 0])), (q, .inr (1, [.int (nI 0), .ref z, .int (nI 0)]))] (fun r w => w = [(h0, .inr (11, [.int (nI 1), .ref q, .int (nI 8), .int (nI 0), .int (nI 0), .int (nI 0), .int (nI 0), .long 0])), (q, .inr (1, [.int (nI 0), .ref z, .int (nI 0)]))]) := by
  refine ofI (cc := cX10_sector) (maxL := 8) RX10 rfl (by decide +kernel) rfl (Nat.le_of_ble_eq_true rfl) ?_
  intro p e s m args below meth c A ls hE
  obtain ⟨hx, hb, hr, hml, hts, hown, hlocks, hA, hS, hP, hK, hD, hG, hl⟩ := hE
  have hl : lv_has ls 8 [(0, .ref h0), (1, .int x0), (2, .int x1), (3, .int x2), (4, .int x3), (5, .int x4)] := hl
  have hH : s.heap = s.heap := rfl
  refine lv_aload_n hx hb dX10_sector_0 rfl (lv_at hl 0 rfl) ?_
  refine lv_iconst (v := nI 0) hx hb dX10_sector_1 (by decide) ?_
  refine va_put (D := D) (ci := 11) (v := .int (nI 0)) (ty := .int) (C := RX10) (T := TX10) (N := 8) hx hb hts n_X10_sector_e_X10 tyX10 tyX10_ok nmX10 hown hK hP hD hS 0 rfl rfl 0 (by decide) (wAt hts 1 (w := .fieldLink RX10 20 "FluxBenchModel" "thrown" "I") rfl) (fun _ h9 => h9) rfl (by decide +kernel) rfl rfl (Nat.le_of_ble_eq_true rfl) dX10_sector_2 (fun H locs hP hD hS => ?_)
  have hP : va_P D vwCl [(h0, .inr (11, [.int (nI 0), .ref q, .int (nI 8), .int (nI 0), .int (nI 0), .int (nI 0), .int (nI 0), .long 0])), (q, .inr (1, [.int (nI 0), .ref z, .int (nI 0)]))] H := hP
  have hD : va_D A [(h0, .inr (11, [.int (nI 0), .ref q, .int (nI 8), .int (nI 0), .int (nI 0), .int (nI 0), .int (nI 0), .long 0])), (q, .inr (1, [.int (nI 0), .ref z, .int (nI 0)]))] := hD
  refine lv_aload_n hx hb dX10_sector_5 rfl (lv_at hl 0 rfl) ?_
  refine lv_iload_n hx hb dX10_sector_6 rfl (lv_at hl 1 rfl) ?_
  have hF := va_free (wc := [(h0, .inr (11, [.int (nI 0), .ref q, .int (nI 8), .int (nI 0), .int (nI 0), .int (nI 0), .int (nI 0), .long 0])), (q, .inr (1, [.int (nI 0), .ref z, .int (nI 0)]))]) hD hS hA [0, 1] rfl
  refine va_calli (va_runV (As := [.int x0]) (rest := []) ⟨hx, hb, hml, hown, hts⟩ (c_X10_isTrack_e l D kA z h0 q (nI 0) x0  _) (cwV 1 hts h_X10_sector_e_0 rfl rfl rfl (by decide +kernel) ⟨Nat.le_of_ble_eq_true rfl, Nat.le_of_ble_eq_true rfl⟩) (fPv hK hP hD hS hG hF [0, 1] (by decide) rfl 0 11 rfl rfl rfl) rfl rfl hl.1 rfl (lv_room (Nat.le_of_ble_eq_true rfl)) dX10_sector_7 ⟨Nat.le_of_ble_eq_true rfl, Nat.le_of_ble_eq_true rfl⟩) hS (fun q _ h => hF q h) hF (fun r_1 w1 t H locs ht hvm hw hB hz1 hk1 hS => ?_)
  obtain ⟨hP, hD⟩ := fJ (wr := []) hP hD [0, 1] [] rfl rfl (by decide) (by decide) hk1 hF ht hB
  try dsimp only at hw
  obtain ⟨rfl, e_1⟩ := hw
  replace e_1 := e_1.symm
  subst e_1
  have hP : va_P D vwCl [(h0, .inr (11, [.int (nI 0), .ref q, .int (nI 8), .int (nI 0), .int (nI 0), .int (nI 0), .int (nI 0), .long 0])), (q, .inr (1, [.int (nI 0), .ref z, .int (nI 0)]))] H := hP
  have hD : va_D A [(h0, .inr (11, [.int (nI 0), .ref q, .int (nI 8), .int (nI 0), .int (nI 0), .int (nI 0), .int (nI 0), .long 0])), (q, .inr (1, [.int (nI 0), .ref z, .int (nI 0)]))] := hD
  refine lv_if_ne (tgt := 19) hx hb dX10_sector_10 (by decide) (fun c10 => absurd (by decide) c10) (fun _ => ?_)
  refine lv_aload_n hx hb dX10_sector_13 rfl (lv_at hl 0 rfl) ?_
  refine lv_iconst (v := nI 1) hx hb dX10_sector_14 (by decide) ?_
  have hF := va_free (wc := [(h0, .inr (11, [.int (nI 0), .ref q, .int (nI 8), .int (nI 0), .int (nI 0), .int (nI 0), .int (nI 0), .long 0]))]) hD hS hA [0] rfl
  refine va_calli (va_runV (As := [.int (nI 1)]) (rest := []) ⟨hx, hb, hml, hown, hts⟩ (c_X10_refuse l D kA z h0 q (nI 1) (nI 0) (nI 8) (nI 0) (nI 0) (nI 0) (nI 0) 0  _) (cwV 1 hts h_X10_sector_e_1 rfl rfl rfl (by decide +kernel) ⟨Nat.le_of_ble_eq_true rfl, Nat.le_of_ble_eq_true rfl⟩) (fPv hK hP hD hS hG hF [0] (by decide) rfl 0 11 rfl rfl rfl) rfl rfl hl.1 rfl (lv_room (Nat.le_of_ble_eq_true rfl)) dX10_sector_15 ⟨Nat.le_of_ble_eq_true rfl, Nat.le_of_ble_eq_true rfl⟩) hS (fun q _ h => hF q h) hF (fun r_2 w1 t H locs ht hvm hw hB hz1 hk1 hS => ?_)
  obtain ⟨hP, hD⟩ := fJ (wr := [(q, .inr (1, [.int (nI 0), .ref z, .int (nI 0)]))]) hP hD [0] [1] rfl rfl (by decide) (by decide) hk1 hF ht hB
  try dsimp only at hw
  obtain ⟨rfl, e_2⟩ := hw
  replace e_2 := e_2.symm
  subst e_2
  have hP : va_P D vwCl [(q, .inr (1, [.int (nI 0), .ref z, .int (nI 0)])), (h0, .inr (11, [.int (nI 1), .ref q, .int (nI 8), .int (nI 0), .int (nI 0), .int (nI 0), .int (nI 0), .long 0]))] H := hP
  have hD : va_D A [(q, .inr (1, [.int (nI 0), .ref z, .int (nI 0)])), (h0, .inr (11, [.int (nI 1), .ref q, .int (nI 8), .int (nI 0), .int (nI 0), .int (nI 0), .int (nI 0), .long 0]))] := hD
  have hP := hP.sub (ws' := [(h0, .inr (11, [.int (nI 1), .ref q, .int (nI 8), .int (nI 0), .int (nI 0), .int (nI 0), .int (nI 0), .long 0])), (q, .inr (1, [.int (nI 0), .ref z, .int (nI 0)]))]) [1, 0] rfl
  have hD := hD.sub (ws' := [(h0, .inr (11, [.int (nI 1), .ref q, .int (nI 8), .int (nI 0), .int (nI 0), .int (nI 0), .int (nI 0), .long 0])), (q, .inr (1, [.int (nI 0), .ref z, .int (nI 0)]))]) [1, 0] (by decide) rfl
  exact endI hx hb hr hlocks hK hP hD hS (rfl) (Nat.le_of_ble_eq_true rfl) (Nat.le_of_ble_eq_true rfl) dX10_sector_18

def wq_X10_weak_e : List Cond := .code yX10_weak cX10_weak 5 (some .boolean) :: (([.methodLink RX10 74 yX10_isPlace, .instanceMethod yX10_isPlace, .selects RX10 yX10_isPlace yX10_isPlace, .initialized RX10, .fieldLink RX10 20 "FluxBenchModel" "thrown" "I"] : List Cond) ++ (u_ws RX10 TX10 8 ++ (wq_X10_isPlace_e ++ ([] : List Cond))))
theorem gd_X10_weak_e : wq_X10_weak_e.all goodWord = true := by decide +kernel
theorem n_X10_weak_e_X10 : ∀ w ∈ u_ws RX10 TX10 8, w ∈ wq_X10_weak_e := fun w h => List.mem_cons_of_mem _ (List.mem_append_right _ (List.mem_append_left _ h))
theorem h_X10_weak_e_0 : GoodIn wq_X10_weak_e (wsV RX10 74 RX10 yX10_isPlace wq_X10_isPlace_e) := goodIn_app (goodIn_r _ [1, 2, 3, 4] (by decide +kernel) (by decide +kernel)) (goodIn_sub (fun w h => List.mem_cons_of_mem _ (List.mem_append_right _ (List.mem_append_right _ (List.mem_append_left _ h)))) gd_X10_isPlace_e)
set_option maxHeartbeats 4000000 in
set_option maxRecDepth 100000 in
theorem c_X10_weak_e (l : Launch) (D : va_G) (kA : Nat → ClassId) (z : Nat) (h0 q : Nat) (th x0 x1 x2 : Int32)  : mI l D (tyL kA) z yX10_weak wq_X10_weak_e ({ frames := 3, cells := 0, slots := 0, locals := 90 }) [.ref h0, .int x0, .int x1, .int x2] [(h0, .inr (11, [.int th, .ref q, .int (nI 8), .int (nI 0), .int (nI 0), .int (nI 0), .int (nI 0), .long 0])), (q, .inr (1, [.int (nI 0), .ref z, .int (nI 0)]))] (fun r w => w = [(h0, .inr (11, [.int (nI 1), .ref q, .int (nI 8), .int (nI 0), .int (nI 0), .int (nI 0), .int (nI 0), .long 0])), (q, .inr (1, [.int (nI 0), .ref z, .int (nI 0)]))]) := by
  refine ofI (cc := cX10_weak) (maxL := 5) RX10 rfl (by decide +kernel) rfl (Nat.le_of_ble_eq_true rfl) ?_
  intro p e s m args below meth c A ls hE
  obtain ⟨hx, hb, hr, hml, hts, hown, hlocks, hA, hS, hP, hK, hD, hG, hl⟩ := hE
  have hl : lv_has ls 5 [(0, .ref h0), (1, .int x0), (2, .int x1), (3, .int x2)] := hl
  have hH : s.heap = s.heap := rfl
  refine lv_aload_n hx hb dX10_weak_0 rfl (lv_at hl 0 rfl) ?_
  refine lv_aload_n hx hb dX10_weak_1 rfl (lv_at hl 0 rfl) ?_
  refine lv_iload_n hx hb dX10_weak_2 rfl (lv_at hl 1 rfl) ?_
  refine lv_iload_n hx hb dX10_weak_3 rfl (lv_at hl 2 rfl) ?_
  have hF := va_free (wc := [(h0, .inr (11, [.int th, .ref q, .int (nI 8), .int (nI 0), .int (nI 0), .int (nI 0), .int (nI 0), .long 0])), (q, .inr (1, [.int (nI 0), .ref z, .int (nI 0)]))]) hD hS hA [0, 1] rfl
  refine va_calli (va_runV (As := [.int x0, .int x1]) (rest := [.ref h0]) ⟨hx, hb, hml, hown, hts⟩ (c_X10_isPlace_e l D kA z h0 q th x0 x1  _) (cwV 2 hts h_X10_weak_e_0 rfl rfl rfl (by decide +kernel) ⟨Nat.le_of_ble_eq_true rfl, Nat.le_of_ble_eq_true rfl⟩) (fPv hK hP hD hS hG hF [0, 1] (by decide) rfl 0 11 rfl rfl rfl) rfl rfl hl.1 rfl (lv_room (Nat.le_of_ble_eq_true rfl)) dX10_weak_4 ⟨Nat.le_of_ble_eq_true rfl, Nat.le_of_ble_eq_true rfl⟩) hS (fun q _ h => hF q h) hF (fun r_1 w1 t H locs ht hvm hw hB hz1 hk1 hS => ?_)
  obtain ⟨hP, hD⟩ := fJ (wr := []) hP hD [0, 1] [] rfl rfl (by decide) (by decide) hk1 hF ht hB
  try dsimp only at hw
  obtain ⟨rfl, e_1⟩ := hw
  replace e_1 := e_1.symm
  subst e_1
  have hP : va_P D vwCl [(h0, .inr (11, [.int th, .ref q, .int (nI 8), .int (nI 0), .int (nI 0), .int (nI 0), .int (nI 0), .long 0])), (q, .inr (1, [.int (nI 0), .ref z, .int (nI 0)]))] H := hP
  have hD : va_D A [(h0, .inr (11, [.int th, .ref q, .int (nI 8), .int (nI 0), .int (nI 0), .int (nI 0), .int (nI 0), .long 0])), (q, .inr (1, [.int (nI 0), .ref z, .int (nI 0)]))] := hD
  refine lv_if_eq (tgt := 14) hx hb dX10_weak_7 (by decide) (fun _ => ?_) (fun c7 => absurd (by decide) c7)
  refine lv_iconst (v := nI 1) hx hb dX10_weak_14 (by decide) ?_
  refine va_put (D := D) (ci := 11) (v := .int (nI 1)) (ty := .int) (C := RX10) (T := TX10) (N := 8) hx hb hts n_X10_weak_e_X10 tyX10 tyX10_ok nmX10 hown hK hP hD hS 0 rfl rfl 0 (by decide) (wAt hts 5 (w := .fieldLink RX10 20 "FluxBenchModel" "thrown" "I") rfl) (fun _ h9 => h9) rfl (by decide +kernel) rfl rfl (Nat.le_of_ble_eq_true rfl) dX10_weak_15 (fun H locs hP hD hS => ?_)
  have hP : va_P D vwCl [(h0, .inr (11, [.int (nI 1), .ref q, .int (nI 8), .int (nI 0), .int (nI 0), .int (nI 0), .int (nI 0), .long 0])), (q, .inr (1, [.int (nI 0), .ref z, .int (nI 0)]))] H := hP
  have hD : va_D A [(h0, .inr (11, [.int (nI 1), .ref q, .int (nI 8), .int (nI 0), .int (nI 0), .int (nI 0), .int (nI 0), .long 0])), (q, .inr (1, [.int (nI 0), .ref z, .int (nI 0)]))] := hD
  refine lv_aload_n hx hb dX10_weak_18 rfl (lv_at hl 0 rfl) ?_
  refine va_get (D := D) (ci := 11) (v := .int (nI 1)) (C := RX10) (T := TX10) (N := 8) hx hb hts n_X10_weak_e_X10 hown hK hP 0 rfl rfl 0 (by decide) (wAt hts 5 (w := .fieldLink RX10 20 "FluxBenchModel" "thrown" "I") rfl) (fun _ h9 => h9) rfl dX10_weak_19 ?_
  refine lv_if_le (tgt := 27) hx hb dX10_weak_22 (by decide) (fun c22 => absurd c22 (by decide)) (fun _ => ?_)
  refine lv_iconst (v := nI 0) hx hb dX10_weak_25 (by decide) ?_
  exact endZ hx hb hr hlocks (rfl) hK hP hD hS (rfl) (Nat.le_of_ble_eq_true rfl) (Nat.le_of_ble_eq_true rfl) dX10_weak_26

def wq_X10_dirt_e : List Cond := .code yX10_dirt cX10_dirt 6 (some .int) :: (([.fieldLink RX10 20 "FluxBenchModel" "thrown" "I", .methodLink RX10 74 yX10_isPlace, .instanceMethod yX10_isPlace, .selects RX10 yX10_isPlace yX10_isPlace, .initialized RX10, .methodLink RX10 31 yX10_refuse, .instanceMethod yX10_refuse, .selects RX10 yX10_refuse yX10_refuse] : List Cond) ++ (u_ws RX10 TX10 8 ++ (wq_X10_isPlace_e ++ (wq_X10_refuse ++ ([] : List Cond)))))
theorem gd_X10_dirt_e : wq_X10_dirt_e.all goodWord = true := by decide +kernel
theorem n_X10_dirt_e_X10 : ∀ w ∈ u_ws RX10 TX10 8, w ∈ wq_X10_dirt_e := fun w h => List.mem_cons_of_mem _ (List.mem_append_right _ (List.mem_append_left _ h))
theorem h_X10_dirt_e_0 : GoodIn wq_X10_dirt_e (wsV RX10 74 RX10 yX10_isPlace wq_X10_isPlace_e) := goodIn_app (goodIn_r _ [2, 3, 4, 5] (by decide +kernel) (by decide +kernel)) (goodIn_sub (fun w h => List.mem_cons_of_mem _ (List.mem_append_right _ (List.mem_append_right _ (List.mem_append_left _ h)))) gd_X10_isPlace_e)
theorem h_X10_dirt_e_1 : GoodIn wq_X10_dirt_e (wsV RX10 31 RX10 yX10_refuse wq_X10_refuse) := goodIn_app (goodIn_r _ [6, 7, 8, 5] (by decide +kernel) (by decide +kernel)) (goodIn_sub (fun w h => List.mem_cons_of_mem _ (List.mem_append_right _ (List.mem_append_right _ (List.mem_append_right _ (List.mem_append_left _ h))))) gd_X10_refuse)
set_option maxHeartbeats 4000000 in
set_option maxRecDepth 100000 in
theorem c_X10_dirt_e (l : Launch) (D : va_G) (kA : Nat → ClassId) (z : Nat) (h0 q : Nat) (th x0 x1 x2 : Int32)  : mI l D (tyL kA) z yX10_dirt wq_X10_dirt_e ({ frames := 3, cells := 0, slots := 0, locals := 90 }) [.ref h0, .int x0, .int x1, .int x2] [(h0, .inr (11, [.int th, .ref q, .int (nI 8), .int (nI 0), .int (nI 0), .int (nI 0), .int (nI 0), .long 0])), (q, .inr (1, [.int (nI 0), .ref z, .int (nI 0)]))] (fun r w => w = [(h0, .inr (11, [.int (nI 1), .ref q, .int (nI 8), .int (nI 0), .int (nI 0), .int (nI 0), .int (nI 0), .long 0])), (q, .inr (1, [.int (nI 0), .ref z, .int (nI 0)]))]) := by
  refine ofI (cc := cX10_dirt) (maxL := 6) RX10 rfl (by decide +kernel) rfl (Nat.le_of_ble_eq_true rfl) ?_
  intro p e s m args below meth c A ls hE
  obtain ⟨hx, hb, hr, hml, hts, hown, hlocks, hA, hS, hP, hK, hD, hG, hl⟩ := hE
  have hl : lv_has ls 6 [(0, .ref h0), (1, .int x0), (2, .int x1), (3, .int x2)] := hl
  have hH : s.heap = s.heap := rfl
  refine lv_aload_n hx hb dX10_dirt_0 rfl (lv_at hl 0 rfl) ?_
  refine lv_iconst (v := nI 0) hx hb dX10_dirt_1 (by decide) ?_
  refine va_put (D := D) (ci := 11) (v := .int (nI 0)) (ty := .int) (C := RX10) (T := TX10) (N := 8) hx hb hts n_X10_dirt_e_X10 tyX10 tyX10_ok nmX10 hown hK hP hD hS 0 rfl rfl 0 (by decide) (wAt hts 1 (w := .fieldLink RX10 20 "FluxBenchModel" "thrown" "I") rfl) (fun _ h9 => h9) rfl (by decide +kernel) rfl rfl (Nat.le_of_ble_eq_true rfl) dX10_dirt_2 (fun H locs hP hD hS => ?_)
  have hP : va_P D vwCl [(h0, .inr (11, [.int (nI 0), .ref q, .int (nI 8), .int (nI 0), .int (nI 0), .int (nI 0), .int (nI 0), .long 0])), (q, .inr (1, [.int (nI 0), .ref z, .int (nI 0)]))] H := hP
  have hD : va_D A [(h0, .inr (11, [.int (nI 0), .ref q, .int (nI 8), .int (nI 0), .int (nI 0), .int (nI 0), .int (nI 0), .long 0])), (q, .inr (1, [.int (nI 0), .ref z, .int (nI 0)]))] := hD
  refine lv_aload_n hx hb dX10_dirt_5 rfl (lv_at hl 0 rfl) ?_
  refine lv_iload_n hx hb dX10_dirt_6 rfl (lv_at hl 1 rfl) ?_
  refine lv_iload_n hx hb dX10_dirt_7 rfl (lv_at hl 2 rfl) ?_
  have hF := va_free (wc := [(h0, .inr (11, [.int (nI 0), .ref q, .int (nI 8), .int (nI 0), .int (nI 0), .int (nI 0), .int (nI 0), .long 0])), (q, .inr (1, [.int (nI 0), .ref z, .int (nI 0)]))]) hD hS hA [0, 1] rfl
  refine va_calli (va_runV (As := [.int x0, .int x1]) (rest := []) ⟨hx, hb, hml, hown, hts⟩ (c_X10_isPlace_e l D kA z h0 q (nI 0) x0 x1  _) (cwV 2 hts h_X10_dirt_e_0 rfl rfl rfl (by decide +kernel) ⟨Nat.le_of_ble_eq_true rfl, Nat.le_of_ble_eq_true rfl⟩) (fPv hK hP hD hS hG hF [0, 1] (by decide) rfl 0 11 rfl rfl rfl) rfl rfl hl.1 rfl (lv_room (Nat.le_of_ble_eq_true rfl)) dX10_dirt_8 ⟨Nat.le_of_ble_eq_true rfl, Nat.le_of_ble_eq_true rfl⟩) hS (fun q _ h => hF q h) hF (fun r_1 w1 t H locs ht hvm hw hB hz1 hk1 hS => ?_)
  obtain ⟨hP, hD⟩ := fJ (wr := []) hP hD [0, 1] [] rfl rfl (by decide) (by decide) hk1 hF ht hB
  try dsimp only at hw
  obtain ⟨rfl, e_1⟩ := hw
  replace e_1 := e_1.symm
  subst e_1
  have hP : va_P D vwCl [(h0, .inr (11, [.int (nI 0), .ref q, .int (nI 8), .int (nI 0), .int (nI 0), .int (nI 0), .int (nI 0), .long 0])), (q, .inr (1, [.int (nI 0), .ref z, .int (nI 0)]))] H := hP
  have hD : va_D A [(h0, .inr (11, [.int (nI 0), .ref q, .int (nI 8), .int (nI 0), .int (nI 0), .int (nI 0), .int (nI 0), .long 0])), (q, .inr (1, [.int (nI 0), .ref z, .int (nI 0)]))] := hD
  refine lv_if_eq (tgt := 23) hx hb dX10_dirt_11 (by decide) (fun _ => ?_) (fun c11 => absurd (by decide) c11)
  refine lv_aload_n hx hb dX10_dirt_23 rfl (lv_at hl 0 rfl) ?_
  refine lv_iconst (v := nI 1) hx hb dX10_dirt_24 (by decide) ?_
  have hF := va_free (wc := [(h0, .inr (11, [.int (nI 0), .ref q, .int (nI 8), .int (nI 0), .int (nI 0), .int (nI 0), .int (nI 0), .long 0]))]) hD hS hA [0] rfl
  refine va_calli (va_runV (As := [.int (nI 1)]) (rest := []) ⟨hx, hb, hml, hown, hts⟩ (c_X10_refuse l D kA z h0 q (nI 1) (nI 0) (nI 8) (nI 0) (nI 0) (nI 0) (nI 0) 0  _) (cwV 1 hts h_X10_dirt_e_1 rfl rfl rfl (by decide +kernel) ⟨Nat.le_of_ble_eq_true rfl, Nat.le_of_ble_eq_true rfl⟩) (fPv hK hP hD hS hG hF [0] (by decide) rfl 0 11 rfl rfl rfl) rfl rfl hl.1 rfl (lv_room (Nat.le_of_ble_eq_true rfl)) dX10_dirt_25 ⟨Nat.le_of_ble_eq_true rfl, Nat.le_of_ble_eq_true rfl⟩) hS (fun q _ h => hF q h) hF (fun r_2 w1 t H locs ht hvm hw hB hz1 hk1 hS => ?_)
  obtain ⟨hP, hD⟩ := fJ (wr := [(q, .inr (1, [.int (nI 0), .ref z, .int (nI 0)]))]) hP hD [0] [1] rfl rfl (by decide) (by decide) hk1 hF ht hB
  try dsimp only at hw
  obtain ⟨rfl, e_2⟩ := hw
  replace e_2 := e_2.symm
  subst e_2
  have hP : va_P D vwCl [(q, .inr (1, [.int (nI 0), .ref z, .int (nI 0)])), (h0, .inr (11, [.int (nI 1), .ref q, .int (nI 8), .int (nI 0), .int (nI 0), .int (nI 0), .int (nI 0), .long 0]))] H := hP
  have hD : va_D A [(q, .inr (1, [.int (nI 0), .ref z, .int (nI 0)])), (h0, .inr (11, [.int (nI 1), .ref q, .int (nI 8), .int (nI 0), .int (nI 0), .int (nI 0), .int (nI 0), .long 0]))] := hD
  have hP := hP.sub (ws' := [(h0, .inr (11, [.int (nI 1), .ref q, .int (nI 8), .int (nI 0), .int (nI 0), .int (nI 0), .int (nI 0), .long 0])), (q, .inr (1, [.int (nI 0), .ref z, .int (nI 0)]))]) [1, 0] rfl
  have hD := hD.sub (ws' := [(h0, .inr (11, [.int (nI 1), .ref q, .int (nI 8), .int (nI 0), .int (nI 0), .int (nI 0), .int (nI 0), .long 0])), (q, .inr (1, [.int (nI 0), .ref z, .int (nI 0)]))]) [1, 0] (by decide) rfl
  exact endI hx hb hr hlocks hK hP hD hS (rfl) (Nat.le_of_ble_eq_true rfl) (Nat.le_of_ble_eq_true rfl) dX10_dirt_28

def wq_X10_clean_e : List Cond := .code yX10_clean cX10_clean 4 (some .int) :: (([.fieldLink RX10 20 "FluxBenchModel" "thrown" "I", .methodLink RX10 44 yX10_isTrack, .instanceMethod yX10_isTrack, .selects RX10 yX10_isTrack yX10_isTrack, .initialized RX10, .methodLink RX10 31 yX10_refuse, .instanceMethod yX10_refuse, .selects RX10 yX10_refuse yX10_refuse] : List Cond) ++ (u_ws RX10 TX10 8 ++ (wq_X10_isTrack_e ++ (wq_X10_refuse ++ ([] : List Cond)))))
theorem gd_X10_clean_e : wq_X10_clean_e.all goodWord = true := by decide +kernel
theorem n_X10_clean_e_X10 : ∀ w ∈ u_ws RX10 TX10 8, w ∈ wq_X10_clean_e := fun w h => List.mem_cons_of_mem _ (List.mem_append_right _ (List.mem_append_left _ h))
theorem h_X10_clean_e_0 : GoodIn wq_X10_clean_e (wsV RX10 44 RX10 yX10_isTrack wq_X10_isTrack_e) := goodIn_app (goodIn_r _ [2, 3, 4, 5] (by decide +kernel) (by decide +kernel)) (goodIn_sub (fun w h => List.mem_cons_of_mem _ (List.mem_append_right _ (List.mem_append_right _ (List.mem_append_left _ h)))) gd_X10_isTrack_e)
theorem h_X10_clean_e_1 : GoodIn wq_X10_clean_e (wsV RX10 31 RX10 yX10_refuse wq_X10_refuse) := goodIn_app (goodIn_r _ [6, 7, 8, 5] (by decide +kernel) (by decide +kernel)) (goodIn_sub (fun w h => List.mem_cons_of_mem _ (List.mem_append_right _ (List.mem_append_right _ (List.mem_append_right _ (List.mem_append_left _ h))))) gd_X10_refuse)
set_option maxHeartbeats 4000000 in
set_option maxRecDepth 100000 in
theorem c_X10_clean_e (l : Launch) (D : va_G) (kA : Nat → ClassId) (z : Nat) (h0 q : Nat) (th x0 : Int32)  : mI l D (tyL kA) z yX10_clean wq_X10_clean_e ({ frames := 3, cells := 0, slots := 0, locals := 90 }) [.ref h0, .int x0] [(h0, .inr (11, [.int th, .ref q, .int (nI 8), .int (nI 0), .int (nI 0), .int (nI 0), .int (nI 0), .long 0])), (q, .inr (1, [.int (nI 0), .ref z, .int (nI 0)]))] (fun r w => w = [(h0, .inr (11, [.int (nI 1), .ref q, .int (nI 8), .int (nI 0), .int (nI 0), .int (nI 0), .int (nI 0), .long 0])), (q, .inr (1, [.int (nI 0), .ref z, .int (nI 0)]))]) := by
  refine ofI (cc := cX10_clean) (maxL := 4) RX10 rfl (by decide +kernel) rfl (Nat.le_of_ble_eq_true rfl) ?_
  intro p e s m args below meth c A ls hE
  obtain ⟨hx, hb, hr, hml, hts, hown, hlocks, hA, hS, hP, hK, hD, hG, hl⟩ := hE
  have hl : lv_has ls 4 [(0, .ref h0), (1, .int x0)] := hl
  have hH : s.heap = s.heap := rfl
  refine lv_aload_n hx hb dX10_clean_0 rfl (lv_at hl 0 rfl) ?_
  refine lv_iconst (v := nI 0) hx hb dX10_clean_1 (by decide) ?_
  refine va_put (D := D) (ci := 11) (v := .int (nI 0)) (ty := .int) (C := RX10) (T := TX10) (N := 8) hx hb hts n_X10_clean_e_X10 tyX10 tyX10_ok nmX10 hown hK hP hD hS 0 rfl rfl 0 (by decide) (wAt hts 1 (w := .fieldLink RX10 20 "FluxBenchModel" "thrown" "I") rfl) (fun _ h9 => h9) rfl (by decide +kernel) rfl rfl (Nat.le_of_ble_eq_true rfl) dX10_clean_2 (fun H locs hP hD hS => ?_)
  have hP : va_P D vwCl [(h0, .inr (11, [.int (nI 0), .ref q, .int (nI 8), .int (nI 0), .int (nI 0), .int (nI 0), .int (nI 0), .long 0])), (q, .inr (1, [.int (nI 0), .ref z, .int (nI 0)]))] H := hP
  have hD : va_D A [(h0, .inr (11, [.int (nI 0), .ref q, .int (nI 8), .int (nI 0), .int (nI 0), .int (nI 0), .int (nI 0), .long 0])), (q, .inr (1, [.int (nI 0), .ref z, .int (nI 0)]))] := hD
  refine lv_aload_n hx hb dX10_clean_5 rfl (lv_at hl 0 rfl) ?_
  refine lv_iload_n hx hb dX10_clean_6 rfl (lv_at hl 1 rfl) ?_
  have hF := va_free (wc := [(h0, .inr (11, [.int (nI 0), .ref q, .int (nI 8), .int (nI 0), .int (nI 0), .int (nI 0), .int (nI 0), .long 0])), (q, .inr (1, [.int (nI 0), .ref z, .int (nI 0)]))]) hD hS hA [0, 1] rfl
  refine va_calli (va_runV (As := [.int x0]) (rest := []) ⟨hx, hb, hml, hown, hts⟩ (c_X10_isTrack_e l D kA z h0 q (nI 0) x0  _) (cwV 1 hts h_X10_clean_e_0 rfl rfl rfl (by decide +kernel) ⟨Nat.le_of_ble_eq_true rfl, Nat.le_of_ble_eq_true rfl⟩) (fPv hK hP hD hS hG hF [0, 1] (by decide) rfl 0 11 rfl rfl rfl) rfl rfl hl.1 rfl (lv_room (Nat.le_of_ble_eq_true rfl)) dX10_clean_7 ⟨Nat.le_of_ble_eq_true rfl, Nat.le_of_ble_eq_true rfl⟩) hS (fun q _ h => hF q h) hF (fun r_1 w1 t H locs ht hvm hw hB hz1 hk1 hS => ?_)
  obtain ⟨hP, hD⟩ := fJ (wr := []) hP hD [0, 1] [] rfl rfl (by decide) (by decide) hk1 hF ht hB
  try dsimp only at hw
  obtain ⟨rfl, e_1⟩ := hw
  replace e_1 := e_1.symm
  subst e_1
  have hP : va_P D vwCl [(h0, .inr (11, [.int (nI 0), .ref q, .int (nI 8), .int (nI 0), .int (nI 0), .int (nI 0), .int (nI 0), .long 0])), (q, .inr (1, [.int (nI 0), .ref z, .int (nI 0)]))] H := hP
  have hD : va_D A [(h0, .inr (11, [.int (nI 0), .ref q, .int (nI 8), .int (nI 0), .int (nI 0), .int (nI 0), .int (nI 0), .long 0])), (q, .inr (1, [.int (nI 0), .ref z, .int (nI 0)]))] := hD
  refine lv_if_ne (tgt := 19) hx hb dX10_clean_10 (by decide) (fun c10 => absurd (by decide) c10) (fun _ => ?_)
  refine lv_aload_n hx hb dX10_clean_13 rfl (lv_at hl 0 rfl) ?_
  refine lv_iconst (v := nI 1) hx hb dX10_clean_14 (by decide) ?_
  have hF := va_free (wc := [(h0, .inr (11, [.int (nI 0), .ref q, .int (nI 8), .int (nI 0), .int (nI 0), .int (nI 0), .int (nI 0), .long 0]))]) hD hS hA [0] rfl
  refine va_calli (va_runV (As := [.int (nI 1)]) (rest := []) ⟨hx, hb, hml, hown, hts⟩ (c_X10_refuse l D kA z h0 q (nI 1) (nI 0) (nI 8) (nI 0) (nI 0) (nI 0) (nI 0) 0  _) (cwV 1 hts h_X10_clean_e_1 rfl rfl rfl (by decide +kernel) ⟨Nat.le_of_ble_eq_true rfl, Nat.le_of_ble_eq_true rfl⟩) (fPv hK hP hD hS hG hF [0] (by decide) rfl 0 11 rfl rfl rfl) rfl rfl hl.1 rfl (lv_room (Nat.le_of_ble_eq_true rfl)) dX10_clean_15 ⟨Nat.le_of_ble_eq_true rfl, Nat.le_of_ble_eq_true rfl⟩) hS (fun q _ h => hF q h) hF (fun r_2 w1 t H locs ht hvm hw hB hz1 hk1 hS => ?_)
  obtain ⟨hP, hD⟩ := fJ (wr := [(q, .inr (1, [.int (nI 0), .ref z, .int (nI 0)]))]) hP hD [0] [1] rfl rfl (by decide) (by decide) hk1 hF ht hB
  try dsimp only at hw
  obtain ⟨rfl, e_2⟩ := hw
  replace e_2 := e_2.symm
  subst e_2
  have hP : va_P D vwCl [(q, .inr (1, [.int (nI 0), .ref z, .int (nI 0)])), (h0, .inr (11, [.int (nI 1), .ref q, .int (nI 8), .int (nI 0), .int (nI 0), .int (nI 0), .int (nI 0), .long 0]))] H := hP
  have hD : va_D A [(q, .inr (1, [.int (nI 0), .ref z, .int (nI 0)])), (h0, .inr (11, [.int (nI 1), .ref q, .int (nI 8), .int (nI 0), .int (nI 0), .int (nI 0), .int (nI 0), .long 0]))] := hD
  have hP := hP.sub (ws' := [(h0, .inr (11, [.int (nI 1), .ref q, .int (nI 8), .int (nI 0), .int (nI 0), .int (nI 0), .int (nI 0), .long 0])), (q, .inr (1, [.int (nI 0), .ref z, .int (nI 0)]))]) [1, 0] rfl
  have hD := hD.sub (ws' := [(h0, .inr (11, [.int (nI 1), .ref q, .int (nI 8), .int (nI 0), .int (nI 0), .int (nI 0), .int (nI 0), .long 0])), (q, .inr (1, [.int (nI 0), .ref z, .int (nI 0)]))]) [1, 0] (by decide) rfl
  exact endI hx hb hr hlocks hK hP hD hS (rfl) (Nat.le_of_ble_eq_true rfl) (Nat.le_of_ble_eq_true rfl) dX10_clean_18

def wq_X10_read_e : List Cond := .code yX10_read cX10_read 6 (some .int) :: (([.fieldLink RX10 20 "FluxBenchModel" "thrown" "I", .methodLink RX10 44 yX10_isTrack, .instanceMethod yX10_isTrack, .selects RX10 yX10_isTrack yX10_isTrack, .initialized RX10, .methodLink RX10 31 yX10_refuse, .instanceMethod yX10_refuse, .selects RX10 yX10_refuse yX10_refuse] : List Cond) ++ (u_ws RX10 TX10 8 ++ (wq_X10_isTrack_e ++ (wq_X10_refuse ++ ([] : List Cond)))))
theorem gd_X10_read_e : wq_X10_read_e.all goodWord = true := by decide +kernel
theorem n_X10_read_e_X10 : ∀ w ∈ u_ws RX10 TX10 8, w ∈ wq_X10_read_e := fun w h => List.mem_cons_of_mem _ (List.mem_append_right _ (List.mem_append_left _ h))
theorem h_X10_read_e_0 : GoodIn wq_X10_read_e (wsV RX10 44 RX10 yX10_isTrack wq_X10_isTrack_e) := goodIn_app (goodIn_r _ [2, 3, 4, 5] (by decide +kernel) (by decide +kernel)) (goodIn_sub (fun w h => List.mem_cons_of_mem _ (List.mem_append_right _ (List.mem_append_right _ (List.mem_append_left _ h)))) gd_X10_isTrack_e)
theorem h_X10_read_e_1 : GoodIn wq_X10_read_e (wsV RX10 31 RX10 yX10_refuse wq_X10_refuse) := goodIn_app (goodIn_r _ [6, 7, 8, 5] (by decide +kernel) (by decide +kernel)) (goodIn_sub (fun w h => List.mem_cons_of_mem _ (List.mem_append_right _ (List.mem_append_right _ (List.mem_append_right _ (List.mem_append_left _ h))))) gd_X10_refuse)
set_option maxHeartbeats 4000000 in
set_option maxRecDepth 100000 in
theorem c_X10_read_e (l : Launch) (D : va_G) (kA : Nat → ClassId) (z : Nat) (h0 q : Nat) (th x0 : Int32)  : mI l D (tyL kA) z yX10_read wq_X10_read_e ({ frames := 3, cells := 0, slots := 0, locals := 90 }) [.ref h0, .int x0] [(h0, .inr (11, [.int th, .ref q, .int (nI 8), .int (nI 0), .int (nI 0), .int (nI 0), .int (nI 0), .long 0])), (q, .inr (1, [.int (nI 0), .ref z, .int (nI 0)]))] (fun r w => w = [(h0, .inr (11, [.int (nI 1), .ref q, .int (nI 8), .int (nI 0), .int (nI 0), .int (nI 0), .int (nI 0), .long 0])), (q, .inr (1, [.int (nI 0), .ref z, .int (nI 0)]))]) := by
  refine ofI (cc := cX10_read) (maxL := 6) RX10 rfl (by decide +kernel) rfl (Nat.le_of_ble_eq_true rfl) ?_
  intro p e s m args below meth c A ls hE
  obtain ⟨hx, hb, hr, hml, hts, hown, hlocks, hA, hS, hP, hK, hD, hG, hl⟩ := hE
  have hl : lv_has ls 6 [(0, .ref h0), (1, .int x0)] := hl
  have hH : s.heap = s.heap := rfl
  refine lv_aload_n hx hb dX10_read_0 rfl (lv_at hl 0 rfl) ?_
  refine lv_iconst (v := nI 0) hx hb dX10_read_1 (by decide) ?_
  refine va_put (D := D) (ci := 11) (v := .int (nI 0)) (ty := .int) (C := RX10) (T := TX10) (N := 8) hx hb hts n_X10_read_e_X10 tyX10 tyX10_ok nmX10 hown hK hP hD hS 0 rfl rfl 0 (by decide) (wAt hts 1 (w := .fieldLink RX10 20 "FluxBenchModel" "thrown" "I") rfl) (fun _ h9 => h9) rfl (by decide +kernel) rfl rfl (Nat.le_of_ble_eq_true rfl) dX10_read_2 (fun H locs hP hD hS => ?_)
  have hP : va_P D vwCl [(h0, .inr (11, [.int (nI 0), .ref q, .int (nI 8), .int (nI 0), .int (nI 0), .int (nI 0), .int (nI 0), .long 0])), (q, .inr (1, [.int (nI 0), .ref z, .int (nI 0)]))] H := hP
  have hD : va_D A [(h0, .inr (11, [.int (nI 0), .ref q, .int (nI 8), .int (nI 0), .int (nI 0), .int (nI 0), .int (nI 0), .long 0])), (q, .inr (1, [.int (nI 0), .ref z, .int (nI 0)]))] := hD
  refine lv_aload_n hx hb dX10_read_5 rfl (lv_at hl 0 rfl) ?_
  refine lv_iload_n hx hb dX10_read_6 rfl (lv_at hl 1 rfl) ?_
  have hF := va_free (wc := [(h0, .inr (11, [.int (nI 0), .ref q, .int (nI 8), .int (nI 0), .int (nI 0), .int (nI 0), .int (nI 0), .long 0])), (q, .inr (1, [.int (nI 0), .ref z, .int (nI 0)]))]) hD hS hA [0, 1] rfl
  refine va_calli (va_runV (As := [.int x0]) (rest := []) ⟨hx, hb, hml, hown, hts⟩ (c_X10_isTrack_e l D kA z h0 q (nI 0) x0  _) (cwV 1 hts h_X10_read_e_0 rfl rfl rfl (by decide +kernel) ⟨Nat.le_of_ble_eq_true rfl, Nat.le_of_ble_eq_true rfl⟩) (fPv hK hP hD hS hG hF [0, 1] (by decide) rfl 0 11 rfl rfl rfl) rfl rfl hl.1 rfl (lv_room (Nat.le_of_ble_eq_true rfl)) dX10_read_7 ⟨Nat.le_of_ble_eq_true rfl, Nat.le_of_ble_eq_true rfl⟩) hS (fun q _ h => hF q h) hF (fun r_1 w1 t H locs ht hvm hw hB hz1 hk1 hS => ?_)
  obtain ⟨hP, hD⟩ := fJ (wr := []) hP hD [0, 1] [] rfl rfl (by decide) (by decide) hk1 hF ht hB
  try dsimp only at hw
  obtain ⟨rfl, e_1⟩ := hw
  replace e_1 := e_1.symm
  subst e_1
  have hP : va_P D vwCl [(h0, .inr (11, [.int (nI 0), .ref q, .int (nI 8), .int (nI 0), .int (nI 0), .int (nI 0), .int (nI 0), .long 0])), (q, .inr (1, [.int (nI 0), .ref z, .int (nI 0)]))] H := hP
  have hD : va_D A [(h0, .inr (11, [.int (nI 0), .ref q, .int (nI 8), .int (nI 0), .int (nI 0), .int (nI 0), .int (nI 0), .long 0])), (q, .inr (1, [.int (nI 0), .ref z, .int (nI 0)]))] := hD
  refine lv_if_ne (tgt := 19) hx hb dX10_read_10 (by decide) (fun c10 => absurd (by decide) c10) (fun _ => ?_)
  refine lv_aload_n hx hb dX10_read_13 rfl (lv_at hl 0 rfl) ?_
  refine lv_iconst (v := nI 1) hx hb dX10_read_14 (by decide) ?_
  have hF := va_free (wc := [(h0, .inr (11, [.int (nI 0), .ref q, .int (nI 8), .int (nI 0), .int (nI 0), .int (nI 0), .int (nI 0), .long 0]))]) hD hS hA [0] rfl
  refine va_calli (va_runV (As := [.int (nI 1)]) (rest := []) ⟨hx, hb, hml, hown, hts⟩ (c_X10_refuse l D kA z h0 q (nI 1) (nI 0) (nI 8) (nI 0) (nI 0) (nI 0) (nI 0) 0  _) (cwV 1 hts h_X10_read_e_1 rfl rfl rfl (by decide +kernel) ⟨Nat.le_of_ble_eq_true rfl, Nat.le_of_ble_eq_true rfl⟩) (fPv hK hP hD hS hG hF [0] (by decide) rfl 0 11 rfl rfl rfl) rfl rfl hl.1 rfl (lv_room (Nat.le_of_ble_eq_true rfl)) dX10_read_15 ⟨Nat.le_of_ble_eq_true rfl, Nat.le_of_ble_eq_true rfl⟩) hS (fun q _ h => hF q h) hF (fun r_2 w1 t H locs ht hvm hw hB hz1 hk1 hS => ?_)
  obtain ⟨hP, hD⟩ := fJ (wr := [(q, .inr (1, [.int (nI 0), .ref z, .int (nI 0)]))]) hP hD [0] [1] rfl rfl (by decide) (by decide) hk1 hF ht hB
  try dsimp only at hw
  obtain ⟨rfl, e_2⟩ := hw
  replace e_2 := e_2.symm
  subst e_2
  have hP : va_P D vwCl [(q, .inr (1, [.int (nI 0), .ref z, .int (nI 0)])), (h0, .inr (11, [.int (nI 1), .ref q, .int (nI 8), .int (nI 0), .int (nI 0), .int (nI 0), .int (nI 0), .long 0]))] H := hP
  have hD : va_D A [(q, .inr (1, [.int (nI 0), .ref z, .int (nI 0)])), (h0, .inr (11, [.int (nI 1), .ref q, .int (nI 8), .int (nI 0), .int (nI 0), .int (nI 0), .int (nI 0), .long 0]))] := hD
  have hP := hP.sub (ws' := [(h0, .inr (11, [.int (nI 1), .ref q, .int (nI 8), .int (nI 0), .int (nI 0), .int (nI 0), .int (nI 0), .long 0])), (q, .inr (1, [.int (nI 0), .ref z, .int (nI 0)]))]) [1, 0] rfl
  have hD := hD.sub (ws' := [(h0, .inr (11, [.int (nI 1), .ref q, .int (nI 8), .int (nI 0), .int (nI 0), .int (nI 0), .int (nI 0), .long 0])), (q, .inr (1, [.int (nI 0), .ref z, .int (nI 0)]))]) [1, 0] (by decide) rfl
  exact endI hx hb hr hlocks hK hP hD hS (rfl) (Nat.le_of_ble_eq_true rfl) (Nat.le_of_ble_eq_true rfl) dX10_read_18

def wq_X10_copy_e : List Cond := .code yX10_copy cX10_copy 7 (some .int) :: (([.fieldLink RX10 20 "FluxBenchModel" "thrown" "I", .methodLink RX10 44 yX10_isTrack, .instanceMethod yX10_isTrack, .selects RX10 yX10_isTrack yX10_isTrack, .initialized RX10, .methodLink RX10 31 yX10_refuse, .instanceMethod yX10_refuse, .selects RX10 yX10_refuse yX10_refuse] : List Cond) ++ (u_ws RX10 TX10 8 ++ (wq_X10_isTrack_e ++ (wq_X10_refuse ++ ([] : List Cond)))))
theorem gd_X10_copy_e : wq_X10_copy_e.all goodWord = true := by decide +kernel
theorem n_X10_copy_e_X10 : ∀ w ∈ u_ws RX10 TX10 8, w ∈ wq_X10_copy_e := fun w h => List.mem_cons_of_mem _ (List.mem_append_right _ (List.mem_append_left _ h))
theorem h_X10_copy_e_0 : GoodIn wq_X10_copy_e (wsV RX10 44 RX10 yX10_isTrack wq_X10_isTrack_e) := goodIn_app (goodIn_r _ [2, 3, 4, 5] (by decide +kernel) (by decide +kernel)) (goodIn_sub (fun w h => List.mem_cons_of_mem _ (List.mem_append_right _ (List.mem_append_right _ (List.mem_append_left _ h)))) gd_X10_isTrack_e)
theorem h_X10_copy_e_1 : GoodIn wq_X10_copy_e (wsV RX10 31 RX10 yX10_refuse wq_X10_refuse) := goodIn_app (goodIn_r _ [6, 7, 8, 5] (by decide +kernel) (by decide +kernel)) (goodIn_sub (fun w h => List.mem_cons_of_mem _ (List.mem_append_right _ (List.mem_append_right _ (List.mem_append_right _ (List.mem_append_left _ h))))) gd_X10_refuse)
set_option maxHeartbeats 4000000 in
set_option maxRecDepth 100000 in
theorem c_X10_copy_e (l : Launch) (D : va_G) (kA : Nat → ClassId) (z : Nat) (h0 q : Nat) (th x0 x1 x2 : Int32)  : mI l D (tyL kA) z yX10_copy wq_X10_copy_e ({ frames := 3, cells := 0, slots := 0, locals := 90 }) [.ref h0, .int x0, .int x1, .int x2] [(h0, .inr (11, [.int th, .ref q, .int (nI 8), .int (nI 0), .int (nI 0), .int (nI 0), .int (nI 0), .long 0])), (q, .inr (1, [.int (nI 0), .ref z, .int (nI 0)]))] (fun r w => w = [(h0, .inr (11, [.int (nI 1), .ref q, .int (nI 8), .int (nI 0), .int (nI 0), .int (nI 0), .int (nI 0), .long 0])), (q, .inr (1, [.int (nI 0), .ref z, .int (nI 0)]))]) := by
  refine ofI (cc := cX10_copy) (maxL := 7) RX10 rfl (by decide +kernel) rfl (Nat.le_of_ble_eq_true rfl) ?_
  intro p e s m args below meth c A ls hE
  obtain ⟨hx, hb, hr, hml, hts, hown, hlocks, hA, hS, hP, hK, hD, hG, hl⟩ := hE
  have hl : lv_has ls 7 [(0, .ref h0), (1, .int x0), (2, .int x1), (3, .int x2)] := hl
  have hH : s.heap = s.heap := rfl
  refine lv_aload_n hx hb dX10_copy_0 rfl (lv_at hl 0 rfl) ?_
  refine lv_iconst (v := nI 0) hx hb dX10_copy_1 (by decide) ?_
  refine va_put (D := D) (ci := 11) (v := .int (nI 0)) (ty := .int) (C := RX10) (T := TX10) (N := 8) hx hb hts n_X10_copy_e_X10 tyX10 tyX10_ok nmX10 hown hK hP hD hS 0 rfl rfl 0 (by decide) (wAt hts 1 (w := .fieldLink RX10 20 "FluxBenchModel" "thrown" "I") rfl) (fun _ h9 => h9) rfl (by decide +kernel) rfl rfl (Nat.le_of_ble_eq_true rfl) dX10_copy_2 (fun H locs hP hD hS => ?_)
  have hP : va_P D vwCl [(h0, .inr (11, [.int (nI 0), .ref q, .int (nI 8), .int (nI 0), .int (nI 0), .int (nI 0), .int (nI 0), .long 0])), (q, .inr (1, [.int (nI 0), .ref z, .int (nI 0)]))] H := hP
  have hD : va_D A [(h0, .inr (11, [.int (nI 0), .ref q, .int (nI 8), .int (nI 0), .int (nI 0), .int (nI 0), .int (nI 0), .long 0])), (q, .inr (1, [.int (nI 0), .ref z, .int (nI 0)]))] := hD
  refine lv_aload_n hx hb dX10_copy_5 rfl (lv_at hl 0 rfl) ?_
  refine lv_iload_n hx hb dX10_copy_6 rfl (lv_at hl 1 rfl) ?_
  have hF := va_free (wc := [(h0, .inr (11, [.int (nI 0), .ref q, .int (nI 8), .int (nI 0), .int (nI 0), .int (nI 0), .int (nI 0), .long 0])), (q, .inr (1, [.int (nI 0), .ref z, .int (nI 0)]))]) hD hS hA [0, 1] rfl
  refine va_calli (va_runV (As := [.int x0]) (rest := []) ⟨hx, hb, hml, hown, hts⟩ (c_X10_isTrack_e l D kA z h0 q (nI 0) x0  _) (cwV 1 hts h_X10_copy_e_0 rfl rfl rfl (by decide +kernel) ⟨Nat.le_of_ble_eq_true rfl, Nat.le_of_ble_eq_true rfl⟩) (fPv hK hP hD hS hG hF [0, 1] (by decide) rfl 0 11 rfl rfl rfl) rfl rfl hl.1 rfl (lv_room (Nat.le_of_ble_eq_true rfl)) dX10_copy_7 ⟨Nat.le_of_ble_eq_true rfl, Nat.le_of_ble_eq_true rfl⟩) hS (fun q _ h => hF q h) hF (fun r_1 w1 t H locs ht hvm hw hB hz1 hk1 hS => ?_)
  obtain ⟨hP, hD⟩ := fJ (wr := []) hP hD [0, 1] [] rfl rfl (by decide) (by decide) hk1 hF ht hB
  try dsimp only at hw
  obtain ⟨rfl, e_1⟩ := hw
  replace e_1 := e_1.symm
  subst e_1
  have hP : va_P D vwCl [(h0, .inr (11, [.int (nI 0), .ref q, .int (nI 8), .int (nI 0), .int (nI 0), .int (nI 0), .int (nI 0), .long 0])), (q, .inr (1, [.int (nI 0), .ref z, .int (nI 0)]))] H := hP
  have hD : va_D A [(h0, .inr (11, [.int (nI 0), .ref q, .int (nI 8), .int (nI 0), .int (nI 0), .int (nI 0), .int (nI 0), .long 0])), (q, .inr (1, [.int (nI 0), .ref z, .int (nI 0)]))] := hD
  refine lv_if_eq (tgt := 21) hx hb dX10_copy_10 (by decide) (fun _ => ?_) (fun c10 => absurd (by decide) c10)
  refine lv_aload_n hx hb dX10_copy_21 rfl (lv_at hl 0 rfl) ?_
  refine lv_iconst (v := nI 1) hx hb dX10_copy_22 (by decide) ?_
  have hF := va_free (wc := [(h0, .inr (11, [.int (nI 0), .ref q, .int (nI 8), .int (nI 0), .int (nI 0), .int (nI 0), .int (nI 0), .long 0]))]) hD hS hA [0] rfl
  refine va_calli (va_runV (As := [.int (nI 1)]) (rest := []) ⟨hx, hb, hml, hown, hts⟩ (c_X10_refuse l D kA z h0 q (nI 1) (nI 0) (nI 8) (nI 0) (nI 0) (nI 0) (nI 0) 0  _) (cwV 1 hts h_X10_copy_e_1 rfl rfl rfl (by decide +kernel) ⟨Nat.le_of_ble_eq_true rfl, Nat.le_of_ble_eq_true rfl⟩) (fPv hK hP hD hS hG hF [0] (by decide) rfl 0 11 rfl rfl rfl) rfl rfl hl.1 rfl (lv_room (Nat.le_of_ble_eq_true rfl)) dX10_copy_23 ⟨Nat.le_of_ble_eq_true rfl, Nat.le_of_ble_eq_true rfl⟩) hS (fun q _ h => hF q h) hF (fun r_2 w1 t H locs ht hvm hw hB hz1 hk1 hS => ?_)
  obtain ⟨hP, hD⟩ := fJ (wr := [(q, .inr (1, [.int (nI 0), .ref z, .int (nI 0)]))]) hP hD [0] [1] rfl rfl (by decide) (by decide) hk1 hF ht hB
  try dsimp only at hw
  obtain ⟨rfl, e_2⟩ := hw
  replace e_2 := e_2.symm
  subst e_2
  have hP : va_P D vwCl [(q, .inr (1, [.int (nI 0), .ref z, .int (nI 0)])), (h0, .inr (11, [.int (nI 1), .ref q, .int (nI 8), .int (nI 0), .int (nI 0), .int (nI 0), .int (nI 0), .long 0]))] H := hP
  have hD : va_D A [(q, .inr (1, [.int (nI 0), .ref z, .int (nI 0)])), (h0, .inr (11, [.int (nI 1), .ref q, .int (nI 8), .int (nI 0), .int (nI 0), .int (nI 0), .int (nI 0), .long 0]))] := hD
  have hP := hP.sub (ws' := [(h0, .inr (11, [.int (nI 1), .ref q, .int (nI 8), .int (nI 0), .int (nI 0), .int (nI 0), .int (nI 0), .long 0])), (q, .inr (1, [.int (nI 0), .ref z, .int (nI 0)]))]) [1, 0] rfl
  have hD := hD.sub (ws' := [(h0, .inr (11, [.int (nI 1), .ref q, .int (nI 8), .int (nI 0), .int (nI 0), .int (nI 0), .int (nI 0), .long 0])), (q, .inr (1, [.int (nI 0), .ref z, .int (nI 0)]))]) [1, 0] (by decide) rfl
  exact endI hx hb hr hlocks hK hP hD hS (rfl) (Nat.le_of_ble_eq_true rfl) (Nat.le_of_ble_eq_true rfl) dX10_copy_26

def wq_X10_ofCell_e : List Cond := .code yX10_ofCell cX10_ofCell 6 (some .int) :: (([.fieldLink RX10 20 "FluxBenchModel" "thrown" "I", .methodLink RX10 74 yX10_isPlace, .instanceMethod yX10_isPlace, .selects RX10 yX10_isPlace yX10_isPlace, .initialized RX10, .methodLink RX10 31 yX10_refuse, .instanceMethod yX10_refuse, .selects RX10 yX10_refuse yX10_refuse] : List Cond) ++ (u_ws RX10 TX10 8 ++ (wq_X10_isPlace_e ++ (wq_X10_refuse ++ ([] : List Cond)))))
theorem gd_X10_ofCell_e : wq_X10_ofCell_e.all goodWord = true := by decide +kernel
theorem n_X10_ofCell_e_X10 : ∀ w ∈ u_ws RX10 TX10 8, w ∈ wq_X10_ofCell_e := fun w h => List.mem_cons_of_mem _ (List.mem_append_right _ (List.mem_append_left _ h))
theorem h_X10_ofCell_e_0 : GoodIn wq_X10_ofCell_e (wsV RX10 74 RX10 yX10_isPlace wq_X10_isPlace_e) := goodIn_app (goodIn_r _ [2, 3, 4, 5] (by decide +kernel) (by decide +kernel)) (goodIn_sub (fun w h => List.mem_cons_of_mem _ (List.mem_append_right _ (List.mem_append_right _ (List.mem_append_left _ h)))) gd_X10_isPlace_e)
theorem h_X10_ofCell_e_1 : GoodIn wq_X10_ofCell_e (wsV RX10 31 RX10 yX10_refuse wq_X10_refuse) := goodIn_app (goodIn_r _ [6, 7, 8, 5] (by decide +kernel) (by decide +kernel)) (goodIn_sub (fun w h => List.mem_cons_of_mem _ (List.mem_append_right _ (List.mem_append_right _ (List.mem_append_right _ (List.mem_append_left _ h))))) gd_X10_refuse)
set_option maxHeartbeats 4000000 in
set_option maxRecDepth 100000 in
theorem c_X10_ofCell_e (l : Launch) (D : va_G) (kA : Nat → ClassId) (z : Nat) (h0 q : Nat) (th x0 x1 x2 : Int32)  : mI l D (tyL kA) z yX10_ofCell wq_X10_ofCell_e ({ frames := 3, cells := 0, slots := 0, locals := 90 }) [.ref h0, .int x0, .int x1, .int x2] [(h0, .inr (11, [.int th, .ref q, .int (nI 8), .int (nI 0), .int (nI 0), .int (nI 0), .int (nI 0), .long 0])), (q, .inr (1, [.int (nI 0), .ref z, .int (nI 0)]))] (fun r w => w = [(h0, .inr (11, [.int (nI 1), .ref q, .int (nI 8), .int (nI 0), .int (nI 0), .int (nI 0), .int (nI 0), .long 0])), (q, .inr (1, [.int (nI 0), .ref z, .int (nI 0)]))]) := by
  refine ofI (cc := cX10_ofCell) (maxL := 6) RX10 rfl (by decide +kernel) rfl (Nat.le_of_ble_eq_true rfl) ?_
  intro p e s m args below meth c A ls hE
  obtain ⟨hx, hb, hr, hml, hts, hown, hlocks, hA, hS, hP, hK, hD, hG, hl⟩ := hE
  have hl : lv_has ls 6 [(0, .ref h0), (1, .int x0), (2, .int x1), (3, .int x2)] := hl
  have hH : s.heap = s.heap := rfl
  refine lv_aload_n hx hb dX10_ofCell_0 rfl (lv_at hl 0 rfl) ?_
  refine lv_iconst (v := nI 0) hx hb dX10_ofCell_1 (by decide) ?_
  refine va_put (D := D) (ci := 11) (v := .int (nI 0)) (ty := .int) (C := RX10) (T := TX10) (N := 8) hx hb hts n_X10_ofCell_e_X10 tyX10 tyX10_ok nmX10 hown hK hP hD hS 0 rfl rfl 0 (by decide) (wAt hts 1 (w := .fieldLink RX10 20 "FluxBenchModel" "thrown" "I") rfl) (fun _ h9 => h9) rfl (by decide +kernel) rfl rfl (Nat.le_of_ble_eq_true rfl) dX10_ofCell_2 (fun H locs hP hD hS => ?_)
  have hP : va_P D vwCl [(h0, .inr (11, [.int (nI 0), .ref q, .int (nI 8), .int (nI 0), .int (nI 0), .int (nI 0), .int (nI 0), .long 0])), (q, .inr (1, [.int (nI 0), .ref z, .int (nI 0)]))] H := hP
  have hD : va_D A [(h0, .inr (11, [.int (nI 0), .ref q, .int (nI 8), .int (nI 0), .int (nI 0), .int (nI 0), .int (nI 0), .long 0])), (q, .inr (1, [.int (nI 0), .ref z, .int (nI 0)]))] := hD
  refine lv_aload_n hx hb dX10_ofCell_5 rfl (lv_at hl 0 rfl) ?_
  refine lv_iload_n hx hb dX10_ofCell_6 rfl (lv_at hl 1 rfl) ?_
  refine lv_iload_n hx hb dX10_ofCell_7 rfl (lv_at hl 2 rfl) ?_
  have hF := va_free (wc := [(h0, .inr (11, [.int (nI 0), .ref q, .int (nI 8), .int (nI 0), .int (nI 0), .int (nI 0), .int (nI 0), .long 0])), (q, .inr (1, [.int (nI 0), .ref z, .int (nI 0)]))]) hD hS hA [0, 1] rfl
  refine va_calli (va_runV (As := [.int x0, .int x1]) (rest := []) ⟨hx, hb, hml, hown, hts⟩ (c_X10_isPlace_e l D kA z h0 q (nI 0) x0 x1  _) (cwV 2 hts h_X10_ofCell_e_0 rfl rfl rfl (by decide +kernel) ⟨Nat.le_of_ble_eq_true rfl, Nat.le_of_ble_eq_true rfl⟩) (fPv hK hP hD hS hG hF [0, 1] (by decide) rfl 0 11 rfl rfl rfl) rfl rfl hl.1 rfl (lv_room (Nat.le_of_ble_eq_true rfl)) dX10_ofCell_8 ⟨Nat.le_of_ble_eq_true rfl, Nat.le_of_ble_eq_true rfl⟩) hS (fun q _ h => hF q h) hF (fun r_1 w1 t H locs ht hvm hw hB hz1 hk1 hS => ?_)
  obtain ⟨hP, hD⟩ := fJ (wr := []) hP hD [0, 1] [] rfl rfl (by decide) (by decide) hk1 hF ht hB
  try dsimp only at hw
  obtain ⟨rfl, e_1⟩ := hw
  replace e_1 := e_1.symm
  subst e_1
  have hP : va_P D vwCl [(h0, .inr (11, [.int (nI 0), .ref q, .int (nI 8), .int (nI 0), .int (nI 0), .int (nI 0), .int (nI 0), .long 0])), (q, .inr (1, [.int (nI 0), .ref z, .int (nI 0)]))] H := hP
  have hD : va_D A [(h0, .inr (11, [.int (nI 0), .ref q, .int (nI 8), .int (nI 0), .int (nI 0), .int (nI 0), .int (nI 0), .long 0])), (q, .inr (1, [.int (nI 0), .ref z, .int (nI 0)]))] := hD
  refine lv_if_ne (tgt := 20) hx hb dX10_ofCell_11 (by decide) (fun c11 => absurd (by decide) c11) (fun _ => ?_)
  refine lv_aload_n hx hb dX10_ofCell_14 rfl (lv_at hl 0 rfl) ?_
  refine lv_iconst (v := nI 1) hx hb dX10_ofCell_15 (by decide) ?_
  have hF := va_free (wc := [(h0, .inr (11, [.int (nI 0), .ref q, .int (nI 8), .int (nI 0), .int (nI 0), .int (nI 0), .int (nI 0), .long 0]))]) hD hS hA [0] rfl
  refine va_calli (va_runV (As := [.int (nI 1)]) (rest := []) ⟨hx, hb, hml, hown, hts⟩ (c_X10_refuse l D kA z h0 q (nI 1) (nI 0) (nI 8) (nI 0) (nI 0) (nI 0) (nI 0) 0  _) (cwV 1 hts h_X10_ofCell_e_1 rfl rfl rfl (by decide +kernel) ⟨Nat.le_of_ble_eq_true rfl, Nat.le_of_ble_eq_true rfl⟩) (fPv hK hP hD hS hG hF [0] (by decide) rfl 0 11 rfl rfl rfl) rfl rfl hl.1 rfl (lv_room (Nat.le_of_ble_eq_true rfl)) dX10_ofCell_16 ⟨Nat.le_of_ble_eq_true rfl, Nat.le_of_ble_eq_true rfl⟩) hS (fun q _ h => hF q h) hF (fun r_2 w1 t H locs ht hvm hw hB hz1 hk1 hS => ?_)
  obtain ⟨hP, hD⟩ := fJ (wr := [(q, .inr (1, [.int (nI 0), .ref z, .int (nI 0)]))]) hP hD [0] [1] rfl rfl (by decide) (by decide) hk1 hF ht hB
  try dsimp only at hw
  obtain ⟨rfl, e_2⟩ := hw
  replace e_2 := e_2.symm
  subst e_2
  have hP : va_P D vwCl [(q, .inr (1, [.int (nI 0), .ref z, .int (nI 0)])), (h0, .inr (11, [.int (nI 1), .ref q, .int (nI 8), .int (nI 0), .int (nI 0), .int (nI 0), .int (nI 0), .long 0]))] H := hP
  have hD : va_D A [(q, .inr (1, [.int (nI 0), .ref z, .int (nI 0)])), (h0, .inr (11, [.int (nI 1), .ref q, .int (nI 8), .int (nI 0), .int (nI 0), .int (nI 0), .int (nI 0), .long 0]))] := hD
  have hP := hP.sub (ws' := [(h0, .inr (11, [.int (nI 1), .ref q, .int (nI 8), .int (nI 0), .int (nI 0), .int (nI 0), .int (nI 0), .long 0])), (q, .inr (1, [.int (nI 0), .ref z, .int (nI 0)]))]) [1, 0] rfl
  have hD := hD.sub (ws' := [(h0, .inr (11, [.int (nI 1), .ref q, .int (nI 8), .int (nI 0), .int (nI 0), .int (nI 0), .int (nI 0), .long 0])), (q, .inr (1, [.int (nI 0), .ref z, .int (nI 0)]))]) [1, 0] (by decide) rfl
  exact endI hx hb hr hlocks hK hP hD hS (rfl) (Nat.le_of_ble_eq_true rfl) (Nat.le_of_ble_eq_true rfl) dX10_ofCell_19

def wq_X10_ofTrack_e : List Cond := .code yX10_ofTrack cX10_ofTrack 3 (some .int) :: (([.fieldLink RX10 20 "FluxBenchModel" "thrown" "I", .methodLink RX10 44 yX10_isTrack, .instanceMethod yX10_isTrack, .selects RX10 yX10_isTrack yX10_isTrack, .initialized RX10, .methodLink RX10 31 yX10_refuse, .instanceMethod yX10_refuse, .selects RX10 yX10_refuse yX10_refuse] : List Cond) ++ (u_ws RX10 TX10 8 ++ (wq_X10_isTrack_e ++ (wq_X10_refuse ++ ([] : List Cond)))))
theorem gd_X10_ofTrack_e : wq_X10_ofTrack_e.all goodWord = true := by decide +kernel
theorem n_X10_ofTrack_e_X10 : ∀ w ∈ u_ws RX10 TX10 8, w ∈ wq_X10_ofTrack_e := fun w h => List.mem_cons_of_mem _ (List.mem_append_right _ (List.mem_append_left _ h))
theorem h_X10_ofTrack_e_0 : GoodIn wq_X10_ofTrack_e (wsV RX10 44 RX10 yX10_isTrack wq_X10_isTrack_e) := goodIn_app (goodIn_r _ [2, 3, 4, 5] (by decide +kernel) (by decide +kernel)) (goodIn_sub (fun w h => List.mem_cons_of_mem _ (List.mem_append_right _ (List.mem_append_right _ (List.mem_append_left _ h)))) gd_X10_isTrack_e)
theorem h_X10_ofTrack_e_1 : GoodIn wq_X10_ofTrack_e (wsV RX10 31 RX10 yX10_refuse wq_X10_refuse) := goodIn_app (goodIn_r _ [6, 7, 8, 5] (by decide +kernel) (by decide +kernel)) (goodIn_sub (fun w h => List.mem_cons_of_mem _ (List.mem_append_right _ (List.mem_append_right _ (List.mem_append_right _ (List.mem_append_left _ h))))) gd_X10_refuse)
set_option maxHeartbeats 4000000 in
set_option maxRecDepth 100000 in
theorem c_X10_ofTrack_e (l : Launch) (D : va_G) (kA : Nat → ClassId) (z : Nat) (h0 q : Nat) (th x0 x1 : Int32)  : mI l D (tyL kA) z yX10_ofTrack wq_X10_ofTrack_e ({ frames := 3, cells := 0, slots := 0, locals := 90 }) [.ref h0, .int x0, .int x1] [(h0, .inr (11, [.int th, .ref q, .int (nI 8), .int (nI 0), .int (nI 0), .int (nI 0), .int (nI 0), .long 0])), (q, .inr (1, [.int (nI 0), .ref z, .int (nI 0)]))] (fun r w => w = [(h0, .inr (11, [.int (nI 1), .ref q, .int (nI 8), .int (nI 0), .int (nI 0), .int (nI 0), .int (nI 0), .long 0])), (q, .inr (1, [.int (nI 0), .ref z, .int (nI 0)]))]) := by
  refine ofI (cc := cX10_ofTrack) (maxL := 3) RX10 rfl (by decide +kernel) rfl (Nat.le_of_ble_eq_true rfl) ?_
  intro p e s m args below meth c A ls hE
  obtain ⟨hx, hb, hr, hml, hts, hown, hlocks, hA, hS, hP, hK, hD, hG, hl⟩ := hE
  have hl : lv_has ls 3 [(0, .ref h0), (1, .int x0), (2, .int x1)] := hl
  have hH : s.heap = s.heap := rfl
  refine lv_aload_n hx hb dX10_ofTrack_0 rfl (lv_at hl 0 rfl) ?_
  refine lv_iconst (v := nI 0) hx hb dX10_ofTrack_1 (by decide) ?_
  refine va_put (D := D) (ci := 11) (v := .int (nI 0)) (ty := .int) (C := RX10) (T := TX10) (N := 8) hx hb hts n_X10_ofTrack_e_X10 tyX10 tyX10_ok nmX10 hown hK hP hD hS 0 rfl rfl 0 (by decide) (wAt hts 1 (w := .fieldLink RX10 20 "FluxBenchModel" "thrown" "I") rfl) (fun _ h9 => h9) rfl (by decide +kernel) rfl rfl (Nat.le_of_ble_eq_true rfl) dX10_ofTrack_2 (fun H locs hP hD hS => ?_)
  have hP : va_P D vwCl [(h0, .inr (11, [.int (nI 0), .ref q, .int (nI 8), .int (nI 0), .int (nI 0), .int (nI 0), .int (nI 0), .long 0])), (q, .inr (1, [.int (nI 0), .ref z, .int (nI 0)]))] H := hP
  have hD : va_D A [(h0, .inr (11, [.int (nI 0), .ref q, .int (nI 8), .int (nI 0), .int (nI 0), .int (nI 0), .int (nI 0), .long 0])), (q, .inr (1, [.int (nI 0), .ref z, .int (nI 0)]))] := hD
  refine lv_aload_n hx hb dX10_ofTrack_5 rfl (lv_at hl 0 rfl) ?_
  refine lv_iload_n hx hb dX10_ofTrack_6 rfl (lv_at hl 1 rfl) ?_
  have hF := va_free (wc := [(h0, .inr (11, [.int (nI 0), .ref q, .int (nI 8), .int (nI 0), .int (nI 0), .int (nI 0), .int (nI 0), .long 0])), (q, .inr (1, [.int (nI 0), .ref z, .int (nI 0)]))]) hD hS hA [0, 1] rfl
  refine va_calli (va_runV (As := [.int x0]) (rest := []) ⟨hx, hb, hml, hown, hts⟩ (c_X10_isTrack_e l D kA z h0 q (nI 0) x0  _) (cwV 1 hts h_X10_ofTrack_e_0 rfl rfl rfl (by decide +kernel) ⟨Nat.le_of_ble_eq_true rfl, Nat.le_of_ble_eq_true rfl⟩) (fPv hK hP hD hS hG hF [0, 1] (by decide) rfl 0 11 rfl rfl rfl) rfl rfl hl.1 rfl (lv_room (Nat.le_of_ble_eq_true rfl)) dX10_ofTrack_7 ⟨Nat.le_of_ble_eq_true rfl, Nat.le_of_ble_eq_true rfl⟩) hS (fun q _ h => hF q h) hF (fun r_1 w1 t H locs ht hvm hw hB hz1 hk1 hS => ?_)
  obtain ⟨hP, hD⟩ := fJ (wr := []) hP hD [0, 1] [] rfl rfl (by decide) (by decide) hk1 hF ht hB
  try dsimp only at hw
  obtain ⟨rfl, e_1⟩ := hw
  replace e_1 := e_1.symm
  subst e_1
  have hP : va_P D vwCl [(h0, .inr (11, [.int (nI 0), .ref q, .int (nI 8), .int (nI 0), .int (nI 0), .int (nI 0), .int (nI 0), .long 0])), (q, .inr (1, [.int (nI 0), .ref z, .int (nI 0)]))] H := hP
  have hD : va_D A [(h0, .inr (11, [.int (nI 0), .ref q, .int (nI 8), .int (nI 0), .int (nI 0), .int (nI 0), .int (nI 0), .long 0])), (q, .inr (1, [.int (nI 0), .ref z, .int (nI 0)]))] := hD
  refine lv_if_ne (tgt := 19) hx hb dX10_ofTrack_10 (by decide) (fun c10 => absurd (by decide) c10) (fun _ => ?_)
  refine lv_aload_n hx hb dX10_ofTrack_13 rfl (lv_at hl 0 rfl) ?_
  refine lv_iconst (v := nI 1) hx hb dX10_ofTrack_14 (by decide) ?_
  have hF := va_free (wc := [(h0, .inr (11, [.int (nI 0), .ref q, .int (nI 8), .int (nI 0), .int (nI 0), .int (nI 0), .int (nI 0), .long 0]))]) hD hS hA [0] rfl
  refine va_calli (va_runV (As := [.int (nI 1)]) (rest := []) ⟨hx, hb, hml, hown, hts⟩ (c_X10_refuse l D kA z h0 q (nI 1) (nI 0) (nI 8) (nI 0) (nI 0) (nI 0) (nI 0) 0  _) (cwV 1 hts h_X10_ofTrack_e_1 rfl rfl rfl (by decide +kernel) ⟨Nat.le_of_ble_eq_true rfl, Nat.le_of_ble_eq_true rfl⟩) (fPv hK hP hD hS hG hF [0] (by decide) rfl 0 11 rfl rfl rfl) rfl rfl hl.1 rfl (lv_room (Nat.le_of_ble_eq_true rfl)) dX10_ofTrack_15 ⟨Nat.le_of_ble_eq_true rfl, Nat.le_of_ble_eq_true rfl⟩) hS (fun q _ h => hF q h) hF (fun r_2 w1 t H locs ht hvm hw hB hz1 hk1 hS => ?_)
  obtain ⟨hP, hD⟩ := fJ (wr := [(q, .inr (1, [.int (nI 0), .ref z, .int (nI 0)]))]) hP hD [0] [1] rfl rfl (by decide) (by decide) hk1 hF ht hB
  try dsimp only at hw
  obtain ⟨rfl, e_2⟩ := hw
  replace e_2 := e_2.symm
  subst e_2
  have hP : va_P D vwCl [(q, .inr (1, [.int (nI 0), .ref z, .int (nI 0)])), (h0, .inr (11, [.int (nI 1), .ref q, .int (nI 8), .int (nI 0), .int (nI 0), .int (nI 0), .int (nI 0), .long 0]))] H := hP
  have hD : va_D A [(q, .inr (1, [.int (nI 0), .ref z, .int (nI 0)])), (h0, .inr (11, [.int (nI 1), .ref q, .int (nI 8), .int (nI 0), .int (nI 0), .int (nI 0), .int (nI 0), .long 0]))] := hD
  have hP := hP.sub (ws' := [(h0, .inr (11, [.int (nI 1), .ref q, .int (nI 8), .int (nI 0), .int (nI 0), .int (nI 0), .int (nI 0), .long 0])), (q, .inr (1, [.int (nI 0), .ref z, .int (nI 0)]))]) [1, 0] rfl
  have hD := hD.sub (ws' := [(h0, .inr (11, [.int (nI 1), .ref q, .int (nI 8), .int (nI 0), .int (nI 0), .int (nI 0), .int (nI 0), .long 0])), (q, .inr (1, [.int (nI 0), .ref z, .int (nI 0)]))]) [1, 0] (by decide) rfl
  exact endI hx hb hr hlocks hK hP hD hS (rfl) (Nat.le_of_ble_eq_true rfl) (Nat.le_of_ble_eq_true rfl) dX10_ofTrack_18

def wq_X10_vote_e : List Cond := .code yX10_vote cX10_vote 3 (some .int) :: (([.fieldLink RX10 20 "FluxBenchModel" "thrown" "I", .methodLink RX10 44 yX10_isTrack, .instanceMethod yX10_isTrack, .selects RX10 yX10_isTrack yX10_isTrack, .initialized RX10, .methodLink RX10 31 yX10_refuse, .instanceMethod yX10_refuse, .selects RX10 yX10_refuse yX10_refuse] : List Cond) ++ (u_ws RX10 TX10 8 ++ (wq_X10_isTrack_e ++ (wq_X10_refuse ++ ([] : List Cond)))))
theorem gd_X10_vote_e : wq_X10_vote_e.all goodWord = true := by decide +kernel
theorem n_X10_vote_e_X10 : ∀ w ∈ u_ws RX10 TX10 8, w ∈ wq_X10_vote_e := fun w h => List.mem_cons_of_mem _ (List.mem_append_right _ (List.mem_append_left _ h))
theorem h_X10_vote_e_0 : GoodIn wq_X10_vote_e (wsV RX10 44 RX10 yX10_isTrack wq_X10_isTrack_e) := goodIn_app (goodIn_r _ [2, 3, 4, 5] (by decide +kernel) (by decide +kernel)) (goodIn_sub (fun w h => List.mem_cons_of_mem _ (List.mem_append_right _ (List.mem_append_right _ (List.mem_append_left _ h)))) gd_X10_isTrack_e)
theorem h_X10_vote_e_1 : GoodIn wq_X10_vote_e (wsV RX10 31 RX10 yX10_refuse wq_X10_refuse) := goodIn_app (goodIn_r _ [6, 7, 8, 5] (by decide +kernel) (by decide +kernel)) (goodIn_sub (fun w h => List.mem_cons_of_mem _ (List.mem_append_right _ (List.mem_append_right _ (List.mem_append_right _ (List.mem_append_left _ h))))) gd_X10_refuse)
set_option maxHeartbeats 4000000 in
set_option maxRecDepth 100000 in
theorem c_X10_vote_e (l : Launch) (D : va_G) (kA : Nat → ClassId) (z : Nat) (h0 q : Nat) (th x0 x1 : Int32)  : mI l D (tyL kA) z yX10_vote wq_X10_vote_e ({ frames := 3, cells := 0, slots := 0, locals := 90 }) [.ref h0, .int x0, .int x1] [(h0, .inr (11, [.int th, .ref q, .int (nI 8), .int (nI 0), .int (nI 0), .int (nI 0), .int (nI 0), .long 0])), (q, .inr (1, [.int (nI 0), .ref z, .int (nI 0)]))] (fun r w => w = [(h0, .inr (11, [.int (nI 1), .ref q, .int (nI 8), .int (nI 0), .int (nI 0), .int (nI 0), .int (nI 0), .long 0])), (q, .inr (1, [.int (nI 0), .ref z, .int (nI 0)]))]) := by
  refine ofI (cc := cX10_vote) (maxL := 3) RX10 rfl (by decide +kernel) rfl (Nat.le_of_ble_eq_true rfl) ?_
  intro p e s m args below meth c A ls hE
  obtain ⟨hx, hb, hr, hml, hts, hown, hlocks, hA, hS, hP, hK, hD, hG, hl⟩ := hE
  have hl : lv_has ls 3 [(0, .ref h0), (1, .int x0), (2, .int x1)] := hl
  have hH : s.heap = s.heap := rfl
  refine lv_aload_n hx hb dX10_vote_0 rfl (lv_at hl 0 rfl) ?_
  refine lv_iconst (v := nI 0) hx hb dX10_vote_1 (by decide) ?_
  refine va_put (D := D) (ci := 11) (v := .int (nI 0)) (ty := .int) (C := RX10) (T := TX10) (N := 8) hx hb hts n_X10_vote_e_X10 tyX10 tyX10_ok nmX10 hown hK hP hD hS 0 rfl rfl 0 (by decide) (wAt hts 1 (w := .fieldLink RX10 20 "FluxBenchModel" "thrown" "I") rfl) (fun _ h9 => h9) rfl (by decide +kernel) rfl rfl (Nat.le_of_ble_eq_true rfl) dX10_vote_2 (fun H locs hP hD hS => ?_)
  have hP : va_P D vwCl [(h0, .inr (11, [.int (nI 0), .ref q, .int (nI 8), .int (nI 0), .int (nI 0), .int (nI 0), .int (nI 0), .long 0])), (q, .inr (1, [.int (nI 0), .ref z, .int (nI 0)]))] H := hP
  have hD : va_D A [(h0, .inr (11, [.int (nI 0), .ref q, .int (nI 8), .int (nI 0), .int (nI 0), .int (nI 0), .int (nI 0), .long 0])), (q, .inr (1, [.int (nI 0), .ref z, .int (nI 0)]))] := hD
  refine lv_aload_n hx hb dX10_vote_5 rfl (lv_at hl 0 rfl) ?_
  refine lv_iload_n hx hb dX10_vote_6 rfl (lv_at hl 1 rfl) ?_
  have hF := va_free (wc := [(h0, .inr (11, [.int (nI 0), .ref q, .int (nI 8), .int (nI 0), .int (nI 0), .int (nI 0), .int (nI 0), .long 0])), (q, .inr (1, [.int (nI 0), .ref z, .int (nI 0)]))]) hD hS hA [0, 1] rfl
  refine va_calli (va_runV (As := [.int x0]) (rest := []) ⟨hx, hb, hml, hown, hts⟩ (c_X10_isTrack_e l D kA z h0 q (nI 0) x0  _) (cwV 1 hts h_X10_vote_e_0 rfl rfl rfl (by decide +kernel) ⟨Nat.le_of_ble_eq_true rfl, Nat.le_of_ble_eq_true rfl⟩) (fPv hK hP hD hS hG hF [0, 1] (by decide) rfl 0 11 rfl rfl rfl) rfl rfl hl.1 rfl (lv_room (Nat.le_of_ble_eq_true rfl)) dX10_vote_7 ⟨Nat.le_of_ble_eq_true rfl, Nat.le_of_ble_eq_true rfl⟩) hS (fun q _ h => hF q h) hF (fun r_1 w1 t H locs ht hvm hw hB hz1 hk1 hS => ?_)
  obtain ⟨hP, hD⟩ := fJ (wr := []) hP hD [0, 1] [] rfl rfl (by decide) (by decide) hk1 hF ht hB
  try dsimp only at hw
  obtain ⟨rfl, e_1⟩ := hw
  replace e_1 := e_1.symm
  subst e_1
  have hP : va_P D vwCl [(h0, .inr (11, [.int (nI 0), .ref q, .int (nI 8), .int (nI 0), .int (nI 0), .int (nI 0), .int (nI 0), .long 0])), (q, .inr (1, [.int (nI 0), .ref z, .int (nI 0)]))] H := hP
  have hD : va_D A [(h0, .inr (11, [.int (nI 0), .ref q, .int (nI 8), .int (nI 0), .int (nI 0), .int (nI 0), .int (nI 0), .long 0])), (q, .inr (1, [.int (nI 0), .ref z, .int (nI 0)]))] := hD
  refine lv_if_eq (tgt := 55) hx hb dX10_vote_10 (by decide) (fun _ => ?_) (fun c10 => absurd (by decide) c10)
  refine lv_aload_n hx hb dX10_vote_55 rfl (lv_at hl 0 rfl) ?_
  refine lv_iconst (v := nI 1) hx hb dX10_vote_56 (by decide) ?_
  have hF := va_free (wc := [(h0, .inr (11, [.int (nI 0), .ref q, .int (nI 8), .int (nI 0), .int (nI 0), .int (nI 0), .int (nI 0), .long 0]))]) hD hS hA [0] rfl
  refine va_calli (va_runV (As := [.int (nI 1)]) (rest := []) ⟨hx, hb, hml, hown, hts⟩ (c_X10_refuse l D kA z h0 q (nI 1) (nI 0) (nI 8) (nI 0) (nI 0) (nI 0) (nI 0) 0  _) (cwV 1 hts h_X10_vote_e_1 rfl rfl rfl (by decide +kernel) ⟨Nat.le_of_ble_eq_true rfl, Nat.le_of_ble_eq_true rfl⟩) (fPv hK hP hD hS hG hF [0] (by decide) rfl 0 11 rfl rfl rfl) rfl rfl hl.1 rfl (lv_room (Nat.le_of_ble_eq_true rfl)) dX10_vote_57 ⟨Nat.le_of_ble_eq_true rfl, Nat.le_of_ble_eq_true rfl⟩) hS (fun q _ h => hF q h) hF (fun r_2 w1 t H locs ht hvm hw hB hz1 hk1 hS => ?_)
  obtain ⟨hP, hD⟩ := fJ (wr := [(q, .inr (1, [.int (nI 0), .ref z, .int (nI 0)]))]) hP hD [0] [1] rfl rfl (by decide) (by decide) hk1 hF ht hB
  try dsimp only at hw
  obtain ⟨rfl, e_2⟩ := hw
  replace e_2 := e_2.symm
  subst e_2
  have hP : va_P D vwCl [(q, .inr (1, [.int (nI 0), .ref z, .int (nI 0)])), (h0, .inr (11, [.int (nI 1), .ref q, .int (nI 8), .int (nI 0), .int (nI 0), .int (nI 0), .int (nI 0), .long 0]))] H := hP
  have hD : va_D A [(q, .inr (1, [.int (nI 0), .ref z, .int (nI 0)])), (h0, .inr (11, [.int (nI 1), .ref q, .int (nI 8), .int (nI 0), .int (nI 0), .int (nI 0), .int (nI 0), .long 0]))] := hD
  have hP := hP.sub (ws' := [(h0, .inr (11, [.int (nI 1), .ref q, .int (nI 8), .int (nI 0), .int (nI 0), .int (nI 0), .int (nI 0), .long 0])), (q, .inr (1, [.int (nI 0), .ref z, .int (nI 0)]))]) [1, 0] rfl
  have hD := hD.sub (ws' := [(h0, .inr (11, [.int (nI 1), .ref q, .int (nI 8), .int (nI 0), .int (nI 0), .int (nI 0), .int (nI 0), .long 0])), (q, .inr (1, [.int (nI 0), .ref z, .int (nI 0)]))]) [1, 0] (by decide) rfl
  exact endI hx hb hr hlocks hK hP hD hS (rfl) (Nat.le_of_ble_eq_true rfl) (Nat.le_of_ble_eq_true rfl) dX10_vote_60

def wq_X10_turn_e : List Cond := .code yX10_turn cX10_turn 4 (some .int) :: (([.fieldLink RX10 20 "FluxBenchModel" "thrown" "I", .methodLink RX10 188 yX10_isTurn, .instanceMethod yX10_isTurn, .selects RX10 yX10_isTurn yX10_isTurn, .initialized RX10, .methodLink RX10 31 yX10_refuse, .instanceMethod yX10_refuse, .selects RX10 yX10_refuse yX10_refuse] : List Cond) ++ (u_ws RX10 TX10 8 ++ (wq_X10_isTurn_e ++ (wq_X10_refuse ++ ([] : List Cond)))))
theorem gd_X10_turn_e : wq_X10_turn_e.all goodWord = true := by decide +kernel
theorem n_X10_turn_e_X10 : ∀ w ∈ u_ws RX10 TX10 8, w ∈ wq_X10_turn_e := fun w h => List.mem_cons_of_mem _ (List.mem_append_right _ (List.mem_append_left _ h))
theorem h_X10_turn_e_0 : GoodIn wq_X10_turn_e (wsV RX10 188 RX10 yX10_isTurn wq_X10_isTurn_e) := goodIn_app (goodIn_r _ [2, 3, 4, 5] (by decide +kernel) (by decide +kernel)) (goodIn_sub (fun w h => List.mem_cons_of_mem _ (List.mem_append_right _ (List.mem_append_right _ (List.mem_append_left _ h)))) gd_X10_isTurn_e)
theorem h_X10_turn_e_1 : GoodIn wq_X10_turn_e (wsV RX10 31 RX10 yX10_refuse wq_X10_refuse) := goodIn_app (goodIn_r _ [6, 7, 8, 5] (by decide +kernel) (by decide +kernel)) (goodIn_sub (fun w h => List.mem_cons_of_mem _ (List.mem_append_right _ (List.mem_append_right _ (List.mem_append_right _ (List.mem_append_left _ h))))) gd_X10_refuse)
set_option maxHeartbeats 4000000 in
set_option maxRecDepth 100000 in
theorem c_X10_turn_e (l : Launch) (D : va_G) (kA : Nat → ClassId) (z : Nat) (h0 q : Nat) (th x0 x1 x2 : Int32)  : mI l D (tyL kA) z yX10_turn wq_X10_turn_e ({ frames := 3, cells := 0, slots := 0, locals := 90 }) [.ref h0, .int x0, .int x1, .int x2] [(h0, .inr (11, [.int th, .ref q, .int (nI 8), .int (nI 0), .int (nI 0), .int (nI 0), .int (nI 0), .long 0])), (q, .inr (1, [.int (nI 0), .ref z, .int (nI 0)]))] (fun r w => w = [(h0, .inr (11, [.int (nI 1), .ref q, .int (nI 8), .int (nI 0), .int (nI 0), .int (nI 0), .int (nI 0), .long 0])), (q, .inr (1, [.int (nI 0), .ref z, .int (nI 0)]))]) := by
  refine ofI (cc := cX10_turn) (maxL := 4) RX10 rfl (by decide +kernel) rfl (Nat.le_of_ble_eq_true rfl) ?_
  intro p e s m args below meth c A ls hE
  obtain ⟨hx, hb, hr, hml, hts, hown, hlocks, hA, hS, hP, hK, hD, hG, hl⟩ := hE
  have hl : lv_has ls 4 [(0, .ref h0), (1, .int x0), (2, .int x1), (3, .int x2)] := hl
  have hH : s.heap = s.heap := rfl
  refine lv_aload_n hx hb dX10_turn_0 rfl (lv_at hl 0 rfl) ?_
  refine lv_iconst (v := nI 0) hx hb dX10_turn_1 (by decide) ?_
  refine va_put (D := D) (ci := 11) (v := .int (nI 0)) (ty := .int) (C := RX10) (T := TX10) (N := 8) hx hb hts n_X10_turn_e_X10 tyX10 tyX10_ok nmX10 hown hK hP hD hS 0 rfl rfl 0 (by decide) (wAt hts 1 (w := .fieldLink RX10 20 "FluxBenchModel" "thrown" "I") rfl) (fun _ h9 => h9) rfl (by decide +kernel) rfl rfl (Nat.le_of_ble_eq_true rfl) dX10_turn_2 (fun H locs hP hD hS => ?_)
  have hP : va_P D vwCl [(h0, .inr (11, [.int (nI 0), .ref q, .int (nI 8), .int (nI 0), .int (nI 0), .int (nI 0), .int (nI 0), .long 0])), (q, .inr (1, [.int (nI 0), .ref z, .int (nI 0)]))] H := hP
  have hD : va_D A [(h0, .inr (11, [.int (nI 0), .ref q, .int (nI 8), .int (nI 0), .int (nI 0), .int (nI 0), .int (nI 0), .long 0])), (q, .inr (1, [.int (nI 0), .ref z, .int (nI 0)]))] := hD
  refine lv_aload_n hx hb dX10_turn_5 rfl (lv_at hl 0 rfl) ?_
  refine lv_iload_n hx hb dX10_turn_6 rfl (lv_at hl 1 rfl) ?_
  refine lv_iload_n hx hb dX10_turn_7 rfl (lv_at hl 2 rfl) ?_
  have hF := va_free (wc := [(h0, .inr (11, [.int (nI 0), .ref q, .int (nI 8), .int (nI 0), .int (nI 0), .int (nI 0), .int (nI 0), .long 0])), (q, .inr (1, [.int (nI 0), .ref z, .int (nI 0)]))]) hD hS hA [0, 1] rfl
  refine va_calli (va_runV (As := [.int x0, .int x1]) (rest := []) ⟨hx, hb, hml, hown, hts⟩ (c_X10_isTurn_e l D kA z h0 q (nI 0) x0 x1  _) (cwV 2 hts h_X10_turn_e_0 rfl rfl rfl (by decide +kernel) ⟨Nat.le_of_ble_eq_true rfl, Nat.le_of_ble_eq_true rfl⟩) (fPv hK hP hD hS hG hF [0, 1] (by decide) rfl 0 11 rfl rfl rfl) rfl rfl hl.1 rfl (lv_room (Nat.le_of_ble_eq_true rfl)) dX10_turn_8 ⟨Nat.le_of_ble_eq_true rfl, Nat.le_of_ble_eq_true rfl⟩) hS (fun q _ h => hF q h) hF (fun r_1 w1 t H locs ht hvm hw hB hz1 hk1 hS => ?_)
  obtain ⟨hP, hD⟩ := fJ (wr := []) hP hD [0, 1] [] rfl rfl (by decide) (by decide) hk1 hF ht hB
  try dsimp only at hw
  obtain ⟨rfl, e_1⟩ := hw
  replace e_1 := e_1.symm
  subst e_1
  have hP : va_P D vwCl [(h0, .inr (11, [.int (nI 0), .ref q, .int (nI 8), .int (nI 0), .int (nI 0), .int (nI 0), .int (nI 0), .long 0])), (q, .inr (1, [.int (nI 0), .ref z, .int (nI 0)]))] H := hP
  have hD : va_D A [(h0, .inr (11, [.int (nI 0), .ref q, .int (nI 8), .int (nI 0), .int (nI 0), .int (nI 0), .int (nI 0), .long 0])), (q, .inr (1, [.int (nI 0), .ref z, .int (nI 0)]))] := hD
  refine lv_if_eq (tgt := 42) hx hb dX10_turn_11 (by decide) (fun _ => ?_) (fun c11 => absurd (by decide) c11)
  refine lv_aload_n hx hb dX10_turn_42 rfl (lv_at hl 0 rfl) ?_
  refine lv_iconst (v := nI 1) hx hb dX10_turn_43 (by decide) ?_
  have hF := va_free (wc := [(h0, .inr (11, [.int (nI 0), .ref q, .int (nI 8), .int (nI 0), .int (nI 0), .int (nI 0), .int (nI 0), .long 0]))]) hD hS hA [0] rfl
  refine va_calli (va_runV (As := [.int (nI 1)]) (rest := []) ⟨hx, hb, hml, hown, hts⟩ (c_X10_refuse l D kA z h0 q (nI 1) (nI 0) (nI 8) (nI 0) (nI 0) (nI 0) (nI 0) 0  _) (cwV 1 hts h_X10_turn_e_1 rfl rfl rfl (by decide +kernel) ⟨Nat.le_of_ble_eq_true rfl, Nat.le_of_ble_eq_true rfl⟩) (fPv hK hP hD hS hG hF [0] (by decide) rfl 0 11 rfl rfl rfl) rfl rfl hl.1 rfl (lv_room (Nat.le_of_ble_eq_true rfl)) dX10_turn_44 ⟨Nat.le_of_ble_eq_true rfl, Nat.le_of_ble_eq_true rfl⟩) hS (fun q _ h => hF q h) hF (fun r_2 w1 t H locs ht hvm hw hB hz1 hk1 hS => ?_)
  obtain ⟨hP, hD⟩ := fJ (wr := [(q, .inr (1, [.int (nI 0), .ref z, .int (nI 0)]))]) hP hD [0] [1] rfl rfl (by decide) (by decide) hk1 hF ht hB
  try dsimp only at hw
  obtain ⟨rfl, e_2⟩ := hw
  replace e_2 := e_2.symm
  subst e_2
  have hP : va_P D vwCl [(q, .inr (1, [.int (nI 0), .ref z, .int (nI 0)])), (h0, .inr (11, [.int (nI 1), .ref q, .int (nI 8), .int (nI 0), .int (nI 0), .int (nI 0), .int (nI 0), .long 0]))] H := hP
  have hD : va_D A [(q, .inr (1, [.int (nI 0), .ref z, .int (nI 0)])), (h0, .inr (11, [.int (nI 1), .ref q, .int (nI 8), .int (nI 0), .int (nI 0), .int (nI 0), .int (nI 0), .long 0]))] := hD
  have hP := hP.sub (ws' := [(h0, .inr (11, [.int (nI 1), .ref q, .int (nI 8), .int (nI 0), .int (nI 0), .int (nI 0), .int (nI 0), .long 0])), (q, .inr (1, [.int (nI 0), .ref z, .int (nI 0)]))]) [1, 0] rfl
  have hD := hD.sub (ws' := [(h0, .inr (11, [.int (nI 1), .ref q, .int (nI 8), .int (nI 0), .int (nI 0), .int (nI 0), .int (nI 0), .long 0])), (q, .inr (1, [.int (nI 0), .ref z, .int (nI 0)]))]) [1, 0] (by decide) rfl
  exact endI hx hb hr hlocks hK hP hD hS (rfl) (Nat.le_of_ble_eq_true rfl) (Nat.le_of_ble_eq_true rfl) dX10_turn_47

def wq_X10_period_e : List Cond := .code yX10_period cX10_period 3 (some .double) :: (([.methodLink RX10 188 yX10_isTurn, .instanceMethod yX10_isTurn, .selects RX10 yX10_isTurn yX10_isTurn, .initialized RX10, .fieldLink RX10 20 "FluxBenchModel" "thrown" "I"] : List Cond) ++ (u_ws RX10 TX10 8 ++ (wq_X10_isTurn_e ++ ([] : List Cond))))
theorem gd_X10_period_e : wq_X10_period_e.all goodWord = true := by decide +kernel
theorem n_X10_period_e_X10 : ∀ w ∈ u_ws RX10 TX10 8, w ∈ wq_X10_period_e := fun w h => List.mem_cons_of_mem _ (List.mem_append_right _ (List.mem_append_left _ h))
theorem h_X10_period_e_0 : GoodIn wq_X10_period_e (wsV RX10 188 RX10 yX10_isTurn wq_X10_isTurn_e) := goodIn_app (goodIn_r _ [1, 2, 3, 4] (by decide +kernel) (by decide +kernel)) (goodIn_sub (fun w h => List.mem_cons_of_mem _ (List.mem_append_right _ (List.mem_append_right _ (List.mem_append_left _ h)))) gd_X10_isTurn_e)
set_option maxHeartbeats 4000000 in
set_option maxRecDepth 100000 in
theorem c_X10_period_e (l : Launch) (D : va_G) (kA : Nat → ClassId) (z : Nat) (h0 q : Nat) (th x0 x1 : Int32)  : mD l D (tyL kA) z yX10_period wq_X10_period_e ({ frames := 3, cells := 0, slots := 0, locals := 90 }) [.ref h0, .int x0, .int x1] [(h0, .inr (11, [.int th, .ref q, .int (nI 8), .int (nI 0), .int (nI 0), .int (nI 0), .int (nI 0), .long 0])), (q, .inr (1, [.int (nI 0), .ref z, .int (nI 0)]))] (fun r w => w = [(h0, .inr (11, [.int (nI 1), .ref q, .int (nI 8), .int (nI 0), .int (nI 0), .int (nI 0), .int (nI 0), .long 0])), (q, .inr (1, [.int (nI 0), .ref z, .int (nI 0)]))]) := by
  refine ofD (cc := cX10_period) (maxL := 3) RX10 rfl (by decide +kernel) rfl (Nat.le_of_ble_eq_true rfl) ?_
  intro p e s m args below meth c A ls hE
  obtain ⟨hx, hb, hr, hml, hts, hown, hlocks, hA, hS, hP, hK, hD, hG, hl⟩ := hE
  have hl : lv_has ls 3 [(0, .ref h0), (1, .int x0), (2, .int x1)] := hl
  have hH : s.heap = s.heap := rfl
  refine lv_aload_n hx hb dX10_period_0 rfl (lv_at hl 0 rfl) ?_
  refine lv_aload_n hx hb dX10_period_1 rfl (lv_at hl 0 rfl) ?_
  refine lv_iload_n hx hb dX10_period_2 rfl (lv_at hl 1 rfl) ?_
  refine lv_iload_n hx hb dX10_period_3 rfl (lv_at hl 2 rfl) ?_
  have hF := va_free (wc := [(h0, .inr (11, [.int th, .ref q, .int (nI 8), .int (nI 0), .int (nI 0), .int (nI 0), .int (nI 0), .long 0])), (q, .inr (1, [.int (nI 0), .ref z, .int (nI 0)]))]) hD hS hA [0, 1] rfl
  refine va_calli (va_runV (As := [.int x0, .int x1]) (rest := [.ref h0]) ⟨hx, hb, hml, hown, hts⟩ (c_X10_isTurn_e l D kA z h0 q th x0 x1  _) (cwV 2 hts h_X10_period_e_0 rfl rfl rfl (by decide +kernel) ⟨Nat.le_of_ble_eq_true rfl, Nat.le_of_ble_eq_true rfl⟩) (fPv hK hP hD hS hG hF [0, 1] (by decide) rfl 0 11 rfl rfl rfl) rfl rfl hl.1 rfl (lv_room (Nat.le_of_ble_eq_true rfl)) dX10_period_4 ⟨Nat.le_of_ble_eq_true rfl, Nat.le_of_ble_eq_true rfl⟩) hS (fun q _ h => hF q h) hF (fun r_1 w1 t H locs ht hvm hw hB hz1 hk1 hS => ?_)
  obtain ⟨hP, hD⟩ := fJ (wr := []) hP hD [0, 1] [] rfl rfl (by decide) (by decide) hk1 hF ht hB
  try dsimp only at hw
  obtain ⟨rfl, e_1⟩ := hw
  replace e_1 := e_1.symm
  subst e_1
  have hP : va_P D vwCl [(h0, .inr (11, [.int th, .ref q, .int (nI 8), .int (nI 0), .int (nI 0), .int (nI 0), .int (nI 0), .long 0])), (q, .inr (1, [.int (nI 0), .ref z, .int (nI 0)]))] H := hP
  have hD : va_D A [(h0, .inr (11, [.int th, .ref q, .int (nI 8), .int (nI 0), .int (nI 0), .int (nI 0), .int (nI 0), .long 0])), (q, .inr (1, [.int (nI 0), .ref z, .int (nI 0)]))] := hD
  refine lv_if_eq (tgt := 14) hx hb dX10_period_7 (by decide) (fun _ => ?_) (fun c7 => absurd (by decide) c7)
  refine lv_iconst (v := nI 1) hx hb dX10_period_14 (by decide) ?_
  refine va_put (D := D) (ci := 11) (v := .int (nI 1)) (ty := .int) (C := RX10) (T := TX10) (N := 8) hx hb hts n_X10_period_e_X10 tyX10 tyX10_ok nmX10 hown hK hP hD hS 0 rfl rfl 0 (by decide) (wAt hts 5 (w := .fieldLink RX10 20 "FluxBenchModel" "thrown" "I") rfl) (fun _ h9 => h9) rfl (by decide +kernel) rfl rfl (Nat.le_of_ble_eq_true rfl) dX10_period_15 (fun H locs hP hD hS => ?_)
  have hP : va_P D vwCl [(h0, .inr (11, [.int (nI 1), .ref q, .int (nI 8), .int (nI 0), .int (nI 0), .int (nI 0), .int (nI 0), .long 0])), (q, .inr (1, [.int (nI 0), .ref z, .int (nI 0)]))] H := hP
  have hD : va_D A [(h0, .inr (11, [.int (nI 1), .ref q, .int (nI 8), .int (nI 0), .int (nI 0), .int (nI 0), .int (nI 0), .long 0])), (q, .inr (1, [.int (nI 0), .ref z, .int (nI 0)]))] := hD
  refine lv_aload_n hx hb dX10_period_18 rfl (lv_at hl 0 rfl) ?_
  refine va_get (D := D) (ci := 11) (v := .int (nI 1)) (C := RX10) (T := TX10) (N := 8) hx hb hts n_X10_period_e_X10 hown hK hP 0 rfl rfl 0 (by decide) (wAt hts 5 (w := .fieldLink RX10 20 "FluxBenchModel" "thrown" "I") rfl) (fun _ h9 => h9) rfl dX10_period_19 ?_
  refine lv_if_le (tgt := 29) hx hb dX10_period_22 (by decide) (fun c22 => absurd c22 (by decide)) (fun _ => ?_)
  refine lv_dconst0 hx hb dX10_period_25 ?_
  refine lv_goto (tgt := 53) hx hb dX10_period_26 (by decide) ?_
  exact endD hx hb hr hlocks hK hP hD hS (rfl) (Nat.le_of_ble_eq_true rfl) (Nat.le_of_ble_eq_true rfl) dX10_period_53

def wq_X10_ofSector_e : List Cond := .code yX10_ofSector cX10_ofSector 5 (some .int) :: (([.fieldLink RX10 20 "FluxBenchModel" "thrown" "I", .methodLink RX10 44 yX10_isTrack, .instanceMethod yX10_isTrack, .selects RX10 yX10_isTrack yX10_isTrack, .initialized RX10, .methodLink RX10 31 yX10_refuse, .instanceMethod yX10_refuse, .selects RX10 yX10_refuse yX10_refuse] : List Cond) ++ (u_ws RX10 TX10 8 ++ (wq_X10_isTrack_e ++ (wq_X10_refuse ++ ([] : List Cond)))))
theorem gd_X10_ofSector_e : wq_X10_ofSector_e.all goodWord = true := by decide +kernel
theorem n_X10_ofSector_e_X10 : ∀ w ∈ u_ws RX10 TX10 8, w ∈ wq_X10_ofSector_e := fun w h => List.mem_cons_of_mem _ (List.mem_append_right _ (List.mem_append_left _ h))
theorem h_X10_ofSector_e_0 : GoodIn wq_X10_ofSector_e (wsV RX10 44 RX10 yX10_isTrack wq_X10_isTrack_e) := goodIn_app (goodIn_r _ [2, 3, 4, 5] (by decide +kernel) (by decide +kernel)) (goodIn_sub (fun w h => List.mem_cons_of_mem _ (List.mem_append_right _ (List.mem_append_right _ (List.mem_append_left _ h)))) gd_X10_isTrack_e)
theorem h_X10_ofSector_e_1 : GoodIn wq_X10_ofSector_e (wsV RX10 31 RX10 yX10_refuse wq_X10_refuse) := goodIn_app (goodIn_r _ [6, 7, 8, 5] (by decide +kernel) (by decide +kernel)) (goodIn_sub (fun w h => List.mem_cons_of_mem _ (List.mem_append_right _ (List.mem_append_right _ (List.mem_append_right _ (List.mem_append_left _ h))))) gd_X10_refuse)
set_option maxHeartbeats 4000000 in
set_option maxRecDepth 100000 in
theorem c_X10_ofSector_e (l : Launch) (D : va_G) (kA : Nat → ClassId) (z : Nat) (h0 q : Nat) (th x0 x1 x2 : Int32)  : mI l D (tyL kA) z yX10_ofSector wq_X10_ofSector_e ({ frames := 3, cells := 0, slots := 0, locals := 90 }) [.ref h0, .int x0, .int x1, .int x2] [(h0, .inr (11, [.int th, .ref q, .int (nI 8), .int (nI 0), .int (nI 0), .int (nI 0), .int (nI 0), .long 0])), (q, .inr (1, [.int (nI 0), .ref z, .int (nI 0)]))] (fun r w => w = [(h0, .inr (11, [.int (nI 1), .ref q, .int (nI 8), .int (nI 0), .int (nI 0), .int (nI 0), .int (nI 0), .long 0])), (q, .inr (1, [.int (nI 0), .ref z, .int (nI 0)]))]) := by
  refine ofI (cc := cX10_ofSector) (maxL := 5) RX10 rfl (by decide +kernel) rfl (Nat.le_of_ble_eq_true rfl) ?_
  intro p e s m args below meth c A ls hE
  obtain ⟨hx, hb, hr, hml, hts, hown, hlocks, hA, hS, hP, hK, hD, hG, hl⟩ := hE
  have hl : lv_has ls 5 [(0, .ref h0), (1, .int x0), (2, .int x1), (3, .int x2)] := hl
  have hH : s.heap = s.heap := rfl
  refine lv_aload_n hx hb dX10_ofSector_0 rfl (lv_at hl 0 rfl) ?_
  refine lv_iconst (v := nI 0) hx hb dX10_ofSector_1 (by decide) ?_
  refine va_put (D := D) (ci := 11) (v := .int (nI 0)) (ty := .int) (C := RX10) (T := TX10) (N := 8) hx hb hts n_X10_ofSector_e_X10 tyX10 tyX10_ok nmX10 hown hK hP hD hS 0 rfl rfl 0 (by decide) (wAt hts 1 (w := .fieldLink RX10 20 "FluxBenchModel" "thrown" "I") rfl) (fun _ h9 => h9) rfl (by decide +kernel) rfl rfl (Nat.le_of_ble_eq_true rfl) dX10_ofSector_2 (fun H locs hP hD hS => ?_)
  have hP : va_P D vwCl [(h0, .inr (11, [.int (nI 0), .ref q, .int (nI 8), .int (nI 0), .int (nI 0), .int (nI 0), .int (nI 0), .long 0])), (q, .inr (1, [.int (nI 0), .ref z, .int (nI 0)]))] H := hP
  have hD : va_D A [(h0, .inr (11, [.int (nI 0), .ref q, .int (nI 8), .int (nI 0), .int (nI 0), .int (nI 0), .int (nI 0), .long 0])), (q, .inr (1, [.int (nI 0), .ref z, .int (nI 0)]))] := hD
  refine lv_aload_n hx hb dX10_ofSector_5 rfl (lv_at hl 0 rfl) ?_
  refine lv_iload_n hx hb dX10_ofSector_6 rfl (lv_at hl 1 rfl) ?_
  have hF := va_free (wc := [(h0, .inr (11, [.int (nI 0), .ref q, .int (nI 8), .int (nI 0), .int (nI 0), .int (nI 0), .int (nI 0), .long 0])), (q, .inr (1, [.int (nI 0), .ref z, .int (nI 0)]))]) hD hS hA [0, 1] rfl
  refine va_calli (va_runV (As := [.int x0]) (rest := []) ⟨hx, hb, hml, hown, hts⟩ (c_X10_isTrack_e l D kA z h0 q (nI 0) x0  _) (cwV 1 hts h_X10_ofSector_e_0 rfl rfl rfl (by decide +kernel) ⟨Nat.le_of_ble_eq_true rfl, Nat.le_of_ble_eq_true rfl⟩) (fPv hK hP hD hS hG hF [0, 1] (by decide) rfl 0 11 rfl rfl rfl) rfl rfl hl.1 rfl (lv_room (Nat.le_of_ble_eq_true rfl)) dX10_ofSector_7 ⟨Nat.le_of_ble_eq_true rfl, Nat.le_of_ble_eq_true rfl⟩) hS (fun q _ h => hF q h) hF (fun r_1 w1 t H locs ht hvm hw hB hz1 hk1 hS => ?_)
  obtain ⟨hP, hD⟩ := fJ (wr := []) hP hD [0, 1] [] rfl rfl (by decide) (by decide) hk1 hF ht hB
  try dsimp only at hw
  obtain ⟨rfl, e_1⟩ := hw
  replace e_1 := e_1.symm
  subst e_1
  have hP : va_P D vwCl [(h0, .inr (11, [.int (nI 0), .ref q, .int (nI 8), .int (nI 0), .int (nI 0), .int (nI 0), .int (nI 0), .long 0])), (q, .inr (1, [.int (nI 0), .ref z, .int (nI 0)]))] H := hP
  have hD : va_D A [(h0, .inr (11, [.int (nI 0), .ref q, .int (nI 8), .int (nI 0), .int (nI 0), .int (nI 0), .int (nI 0), .long 0])), (q, .inr (1, [.int (nI 0), .ref z, .int (nI 0)]))] := hD
  refine lv_if_ne (tgt := 19) hx hb dX10_ofSector_10 (by decide) (fun c10 => absurd (by decide) c10) (fun _ => ?_)
  refine lv_aload_n hx hb dX10_ofSector_13 rfl (lv_at hl 0 rfl) ?_
  refine lv_iconst (v := nI 1) hx hb dX10_ofSector_14 (by decide) ?_
  have hF := va_free (wc := [(h0, .inr (11, [.int (nI 0), .ref q, .int (nI 8), .int (nI 0), .int (nI 0), .int (nI 0), .int (nI 0), .long 0]))]) hD hS hA [0] rfl
  refine va_calli (va_runV (As := [.int (nI 1)]) (rest := []) ⟨hx, hb, hml, hown, hts⟩ (c_X10_refuse l D kA z h0 q (nI 1) (nI 0) (nI 8) (nI 0) (nI 0) (nI 0) (nI 0) 0  _) (cwV 1 hts h_X10_ofSector_e_1 rfl rfl rfl (by decide +kernel) ⟨Nat.le_of_ble_eq_true rfl, Nat.le_of_ble_eq_true rfl⟩) (fPv hK hP hD hS hG hF [0] (by decide) rfl 0 11 rfl rfl rfl) rfl rfl hl.1 rfl (lv_room (Nat.le_of_ble_eq_true rfl)) dX10_ofSector_15 ⟨Nat.le_of_ble_eq_true rfl, Nat.le_of_ble_eq_true rfl⟩) hS (fun q _ h => hF q h) hF (fun r_2 w1 t H locs ht hvm hw hB hz1 hk1 hS => ?_)
  obtain ⟨hP, hD⟩ := fJ (wr := [(q, .inr (1, [.int (nI 0), .ref z, .int (nI 0)]))]) hP hD [0] [1] rfl rfl (by decide) (by decide) hk1 hF ht hB
  try dsimp only at hw
  obtain ⟨rfl, e_2⟩ := hw
  replace e_2 := e_2.symm
  subst e_2
  have hP : va_P D vwCl [(q, .inr (1, [.int (nI 0), .ref z, .int (nI 0)])), (h0, .inr (11, [.int (nI 1), .ref q, .int (nI 8), .int (nI 0), .int (nI 0), .int (nI 0), .int (nI 0), .long 0]))] H := hP
  have hD : va_D A [(q, .inr (1, [.int (nI 0), .ref z, .int (nI 0)])), (h0, .inr (11, [.int (nI 1), .ref q, .int (nI 8), .int (nI 0), .int (nI 0), .int (nI 0), .int (nI 0), .long 0]))] := hD
  have hP := hP.sub (ws' := [(h0, .inr (11, [.int (nI 1), .ref q, .int (nI 8), .int (nI 0), .int (nI 0), .int (nI 0), .int (nI 0), .long 0])), (q, .inr (1, [.int (nI 0), .ref z, .int (nI 0)]))]) [1, 0] rfl
  have hD := hD.sub (ws' := [(h0, .inr (11, [.int (nI 1), .ref q, .int (nI 8), .int (nI 0), .int (nI 0), .int (nI 0), .int (nI 0), .long 0])), (q, .inr (1, [.int (nI 0), .ref z, .int (nI 0)]))]) [1, 0] (by decide) rfl
  exact endI hx hb hr hlocks hK hP hD hS (rfl) (Nat.le_of_ble_eq_true rfl) (Nat.le_of_ble_eq_true rfl) dX10_ofSector_18

def wq_X10_chain_e : List Cond := .code yX10_chain cX10_chain 7 (some .int) :: (([.fieldLink RX10 20 "FluxBenchModel" "thrown" "I", .methodLink RX10 44 yX10_isTrack, .instanceMethod yX10_isTrack, .selects RX10 yX10_isTrack yX10_isTrack, .initialized RX10, .methodLink RX10 31 yX10_refuse, .instanceMethod yX10_refuse, .selects RX10 yX10_refuse yX10_refuse] : List Cond) ++ (u_ws RX10 TX10 8 ++ (wq_X10_isTrack_e ++ (wq_X10_refuse ++ ([] : List Cond)))))
theorem gd_X10_chain_e : wq_X10_chain_e.all goodWord = true := by decide +kernel
theorem n_X10_chain_e_X10 : ∀ w ∈ u_ws RX10 TX10 8, w ∈ wq_X10_chain_e := fun w h => List.mem_cons_of_mem _ (List.mem_append_right _ (List.mem_append_left _ h))
theorem h_X10_chain_e_0 : GoodIn wq_X10_chain_e (wsV RX10 44 RX10 yX10_isTrack wq_X10_isTrack_e) := goodIn_app (goodIn_r _ [2, 3, 4, 5] (by decide +kernel) (by decide +kernel)) (goodIn_sub (fun w h => List.mem_cons_of_mem _ (List.mem_append_right _ (List.mem_append_right _ (List.mem_append_left _ h)))) gd_X10_isTrack_e)
theorem h_X10_chain_e_1 : GoodIn wq_X10_chain_e (wsV RX10 31 RX10 yX10_refuse wq_X10_refuse) := goodIn_app (goodIn_r _ [6, 7, 8, 5] (by decide +kernel) (by decide +kernel)) (goodIn_sub (fun w h => List.mem_cons_of_mem _ (List.mem_append_right _ (List.mem_append_right _ (List.mem_append_right _ (List.mem_append_left _ h))))) gd_X10_refuse)
set_option maxHeartbeats 4000000 in
set_option maxRecDepth 100000 in
theorem c_X10_chain_e (l : Launch) (D : va_G) (kA : Nat → ClassId) (z : Nat) (h0 q : Nat) (th x0 x1 : Int32)  : mI l D (tyL kA) z yX10_chain wq_X10_chain_e ({ frames := 3, cells := 0, slots := 0, locals := 90 }) [.ref h0, .int x0, .int x1] [(h0, .inr (11, [.int th, .ref q, .int (nI 8), .int (nI 0), .int (nI 0), .int (nI 0), .int (nI 0), .long 0])), (q, .inr (1, [.int (nI 0), .ref z, .int (nI 0)]))] (fun r w => w = [(h0, .inr (11, [.int (nI 1), .ref q, .int (nI 8), .int (nI 0), .int (nI 0), .int (nI 0), .int (nI 0), .long 0])), (q, .inr (1, [.int (nI 0), .ref z, .int (nI 0)]))]) := by
  refine ofI (cc := cX10_chain) (maxL := 7) RX10 rfl (by decide +kernel) rfl (Nat.le_of_ble_eq_true rfl) ?_
  intro p e s m args below meth c A ls hE
  obtain ⟨hx, hb, hr, hml, hts, hown, hlocks, hA, hS, hP, hK, hD, hG, hl⟩ := hE
  have hl : lv_has ls 7 [(0, .ref h0), (1, .int x0), (2, .int x1)] := hl
  have hH : s.heap = s.heap := rfl
  refine lv_aload_n hx hb dX10_chain_0 rfl (lv_at hl 0 rfl) ?_
  refine lv_iconst (v := nI 0) hx hb dX10_chain_1 (by decide) ?_
  refine va_put (D := D) (ci := 11) (v := .int (nI 0)) (ty := .int) (C := RX10) (T := TX10) (N := 8) hx hb hts n_X10_chain_e_X10 tyX10 tyX10_ok nmX10 hown hK hP hD hS 0 rfl rfl 0 (by decide) (wAt hts 1 (w := .fieldLink RX10 20 "FluxBenchModel" "thrown" "I") rfl) (fun _ h9 => h9) rfl (by decide +kernel) rfl rfl (Nat.le_of_ble_eq_true rfl) dX10_chain_2 (fun H locs hP hD hS => ?_)
  have hP : va_P D vwCl [(h0, .inr (11, [.int (nI 0), .ref q, .int (nI 8), .int (nI 0), .int (nI 0), .int (nI 0), .int (nI 0), .long 0])), (q, .inr (1, [.int (nI 0), .ref z, .int (nI 0)]))] H := hP
  have hD : va_D A [(h0, .inr (11, [.int (nI 0), .ref q, .int (nI 8), .int (nI 0), .int (nI 0), .int (nI 0), .int (nI 0), .long 0])), (q, .inr (1, [.int (nI 0), .ref z, .int (nI 0)]))] := hD
  refine lv_aload_n hx hb dX10_chain_5 rfl (lv_at hl 0 rfl) ?_
  refine lv_iload_n hx hb dX10_chain_6 rfl (lv_at hl 1 rfl) ?_
  have hF := va_free (wc := [(h0, .inr (11, [.int (nI 0), .ref q, .int (nI 8), .int (nI 0), .int (nI 0), .int (nI 0), .int (nI 0), .long 0])), (q, .inr (1, [.int (nI 0), .ref z, .int (nI 0)]))]) hD hS hA [0, 1] rfl
  refine va_calli (va_runV (As := [.int x0]) (rest := []) ⟨hx, hb, hml, hown, hts⟩ (c_X10_isTrack_e l D kA z h0 q (nI 0) x0  _) (cwV 1 hts h_X10_chain_e_0 rfl rfl rfl (by decide +kernel) ⟨Nat.le_of_ble_eq_true rfl, Nat.le_of_ble_eq_true rfl⟩) (fPv hK hP hD hS hG hF [0, 1] (by decide) rfl 0 11 rfl rfl rfl) rfl rfl hl.1 rfl (lv_room (Nat.le_of_ble_eq_true rfl)) dX10_chain_7 ⟨Nat.le_of_ble_eq_true rfl, Nat.le_of_ble_eq_true rfl⟩) hS (fun q _ h => hF q h) hF (fun r_1 w1 t H locs ht hvm hw hB hz1 hk1 hS => ?_)
  obtain ⟨hP, hD⟩ := fJ (wr := []) hP hD [0, 1] [] rfl rfl (by decide) (by decide) hk1 hF ht hB
  try dsimp only at hw
  obtain ⟨rfl, e_1⟩ := hw
  replace e_1 := e_1.symm
  subst e_1
  have hP : va_P D vwCl [(h0, .inr (11, [.int (nI 0), .ref q, .int (nI 8), .int (nI 0), .int (nI 0), .int (nI 0), .int (nI 0), .long 0])), (q, .inr (1, [.int (nI 0), .ref z, .int (nI 0)]))] H := hP
  have hD : va_D A [(h0, .inr (11, [.int (nI 0), .ref q, .int (nI 8), .int (nI 0), .int (nI 0), .int (nI 0), .int (nI 0), .long 0])), (q, .inr (1, [.int (nI 0), .ref z, .int (nI 0)]))] := hD
  refine lv_if_ne (tgt := 19) hx hb dX10_chain_10 (by decide) (fun c10 => absurd (by decide) c10) (fun _ => ?_)
  refine lv_aload_n hx hb dX10_chain_13 rfl (lv_at hl 0 rfl) ?_
  refine lv_iconst (v := nI 1) hx hb dX10_chain_14 (by decide) ?_
  have hF := va_free (wc := [(h0, .inr (11, [.int (nI 0), .ref q, .int (nI 8), .int (nI 0), .int (nI 0), .int (nI 0), .int (nI 0), .long 0]))]) hD hS hA [0] rfl
  refine va_calli (va_runV (As := [.int (nI 1)]) (rest := []) ⟨hx, hb, hml, hown, hts⟩ (c_X10_refuse l D kA z h0 q (nI 1) (nI 0) (nI 8) (nI 0) (nI 0) (nI 0) (nI 0) 0  _) (cwV 1 hts h_X10_chain_e_1 rfl rfl rfl (by decide +kernel) ⟨Nat.le_of_ble_eq_true rfl, Nat.le_of_ble_eq_true rfl⟩) (fPv hK hP hD hS hG hF [0] (by decide) rfl 0 11 rfl rfl rfl) rfl rfl hl.1 rfl (lv_room (Nat.le_of_ble_eq_true rfl)) dX10_chain_15 ⟨Nat.le_of_ble_eq_true rfl, Nat.le_of_ble_eq_true rfl⟩) hS (fun q _ h => hF q h) hF (fun r_2 w1 t H locs ht hvm hw hB hz1 hk1 hS => ?_)
  obtain ⟨hP, hD⟩ := fJ (wr := [(q, .inr (1, [.int (nI 0), .ref z, .int (nI 0)]))]) hP hD [0] [1] rfl rfl (by decide) (by decide) hk1 hF ht hB
  try dsimp only at hw
  obtain ⟨rfl, e_2⟩ := hw
  replace e_2 := e_2.symm
  subst e_2
  have hP : va_P D vwCl [(q, .inr (1, [.int (nI 0), .ref z, .int (nI 0)])), (h0, .inr (11, [.int (nI 1), .ref q, .int (nI 8), .int (nI 0), .int (nI 0), .int (nI 0), .int (nI 0), .long 0]))] H := hP
  have hD : va_D A [(q, .inr (1, [.int (nI 0), .ref z, .int (nI 0)])), (h0, .inr (11, [.int (nI 1), .ref q, .int (nI 8), .int (nI 0), .int (nI 0), .int (nI 0), .int (nI 0), .long 0]))] := hD
  have hP := hP.sub (ws' := [(h0, .inr (11, [.int (nI 1), .ref q, .int (nI 8), .int (nI 0), .int (nI 0), .int (nI 0), .int (nI 0), .long 0])), (q, .inr (1, [.int (nI 0), .ref z, .int (nI 0)]))]) [1, 0] rfl
  have hD := hD.sub (ws' := [(h0, .inr (11, [.int (nI 1), .ref q, .int (nI 8), .int (nI 0), .int (nI 0), .int (nI 0), .int (nI 0), .long 0])), (q, .inr (1, [.int (nI 0), .ref z, .int (nI 0)]))]) [1, 0] (by decide) rfl
  exact endI hx hb hr hlocks hK hP hD hS (rfl) (Nat.le_of_ble_eq_true rfl) (Nat.le_of_ble_eq_true rfl) dX10_chain_18

def wq_X10_sure_e : List Cond := .code yX10_sure cX10_sure 4 (some .double) :: (([.methodLink RX10 44 yX10_isTrack, .instanceMethod yX10_isTrack, .selects RX10 yX10_isTrack yX10_isTrack, .initialized RX10, .fieldLink RX10 20 "FluxBenchModel" "thrown" "I"] : List Cond) ++ (u_ws RX10 TX10 8 ++ (wq_X10_isTrack_e ++ ([] : List Cond))))
theorem gd_X10_sure_e : wq_X10_sure_e.all goodWord = true := by decide +kernel
theorem n_X10_sure_e_X10 : ∀ w ∈ u_ws RX10 TX10 8, w ∈ wq_X10_sure_e := fun w h => List.mem_cons_of_mem _ (List.mem_append_right _ (List.mem_append_left _ h))
theorem h_X10_sure_e_0 : GoodIn wq_X10_sure_e (wsV RX10 44 RX10 yX10_isTrack wq_X10_isTrack_e) := goodIn_app (goodIn_r _ [1, 2, 3, 4] (by decide +kernel) (by decide +kernel)) (goodIn_sub (fun w h => List.mem_cons_of_mem _ (List.mem_append_right _ (List.mem_append_right _ (List.mem_append_left _ h)))) gd_X10_isTrack_e)
set_option maxHeartbeats 4000000 in
set_option maxRecDepth 100000 in
theorem c_X10_sure_e (l : Launch) (D : va_G) (kA : Nat → ClassId) (z : Nat) (h0 q : Nat) (th x0 : Int32)  : mD l D (tyL kA) z yX10_sure wq_X10_sure_e ({ frames := 3, cells := 0, slots := 0, locals := 90 }) [.ref h0, .int x0] [(h0, .inr (11, [.int th, .ref q, .int (nI 8), .int (nI 0), .int (nI 0), .int (nI 0), .int (nI 0), .long 0])), (q, .inr (1, [.int (nI 0), .ref z, .int (nI 0)]))] (fun r w => w = [(h0, .inr (11, [.int (nI 1), .ref q, .int (nI 8), .int (nI 0), .int (nI 0), .int (nI 0), .int (nI 0), .long 0])), (q, .inr (1, [.int (nI 0), .ref z, .int (nI 0)]))]) := by
  refine ofD (cc := cX10_sure) (maxL := 4) RX10 rfl (by decide +kernel) rfl (Nat.le_of_ble_eq_true rfl) ?_
  intro p e s m args below meth c A ls hE
  obtain ⟨hx, hb, hr, hml, hts, hown, hlocks, hA, hS, hP, hK, hD, hG, hl⟩ := hE
  have hl : lv_has ls 4 [(0, .ref h0), (1, .int x0)] := hl
  have hH : s.heap = s.heap := rfl
  refine lv_aload_n hx hb dX10_sure_0 rfl (lv_at hl 0 rfl) ?_
  refine lv_aload_n hx hb dX10_sure_1 rfl (lv_at hl 0 rfl) ?_
  refine lv_iload_n hx hb dX10_sure_2 rfl (lv_at hl 1 rfl) ?_
  have hF := va_free (wc := [(h0, .inr (11, [.int th, .ref q, .int (nI 8), .int (nI 0), .int (nI 0), .int (nI 0), .int (nI 0), .long 0])), (q, .inr (1, [.int (nI 0), .ref z, .int (nI 0)]))]) hD hS hA [0, 1] rfl
  refine va_calli (va_runV (As := [.int x0]) (rest := [.ref h0]) ⟨hx, hb, hml, hown, hts⟩ (c_X10_isTrack_e l D kA z h0 q th x0  _) (cwV 1 hts h_X10_sure_e_0 rfl rfl rfl (by decide +kernel) ⟨Nat.le_of_ble_eq_true rfl, Nat.le_of_ble_eq_true rfl⟩) (fPv hK hP hD hS hG hF [0, 1] (by decide) rfl 0 11 rfl rfl rfl) rfl rfl hl.1 rfl (lv_room (Nat.le_of_ble_eq_true rfl)) dX10_sure_3 ⟨Nat.le_of_ble_eq_true rfl, Nat.le_of_ble_eq_true rfl⟩) hS (fun q _ h => hF q h) hF (fun r_1 w1 t H locs ht hvm hw hB hz1 hk1 hS => ?_)
  obtain ⟨hP, hD⟩ := fJ (wr := []) hP hD [0, 1] [] rfl rfl (by decide) (by decide) hk1 hF ht hB
  try dsimp only at hw
  obtain ⟨rfl, e_1⟩ := hw
  replace e_1 := e_1.symm
  subst e_1
  have hP : va_P D vwCl [(h0, .inr (11, [.int th, .ref q, .int (nI 8), .int (nI 0), .int (nI 0), .int (nI 0), .int (nI 0), .long 0])), (q, .inr (1, [.int (nI 0), .ref z, .int (nI 0)]))] H := hP
  have hD : va_D A [(h0, .inr (11, [.int th, .ref q, .int (nI 8), .int (nI 0), .int (nI 0), .int (nI 0), .int (nI 0), .long 0])), (q, .inr (1, [.int (nI 0), .ref z, .int (nI 0)]))] := hD
  refine lv_if_eq (tgt := 13) hx hb dX10_sure_6 (by decide) (fun _ => ?_) (fun c6 => absurd (by decide) c6)
  refine lv_iconst (v := nI 1) hx hb dX10_sure_13 (by decide) ?_
  refine va_put (D := D) (ci := 11) (v := .int (nI 1)) (ty := .int) (C := RX10) (T := TX10) (N := 8) hx hb hts n_X10_sure_e_X10 tyX10 tyX10_ok nmX10 hown hK hP hD hS 0 rfl rfl 0 (by decide) (wAt hts 5 (w := .fieldLink RX10 20 "FluxBenchModel" "thrown" "I") rfl) (fun _ h9 => h9) rfl (by decide +kernel) rfl rfl (Nat.le_of_ble_eq_true rfl) dX10_sure_14 (fun H locs hP hD hS => ?_)
  have hP : va_P D vwCl [(h0, .inr (11, [.int (nI 1), .ref q, .int (nI 8), .int (nI 0), .int (nI 0), .int (nI 0), .int (nI 0), .long 0])), (q, .inr (1, [.int (nI 0), .ref z, .int (nI 0)]))] H := hP
  have hD : va_D A [(h0, .inr (11, [.int (nI 1), .ref q, .int (nI 8), .int (nI 0), .int (nI 0), .int (nI 0), .int (nI 0), .long 0])), (q, .inr (1, [.int (nI 0), .ref z, .int (nI 0)]))] := hD
  refine lv_aload_n hx hb dX10_sure_17 rfl (lv_at hl 0 rfl) ?_
  refine va_get (D := D) (ci := 11) (v := .int (nI 1)) (C := RX10) (T := TX10) (N := 8) hx hb hts n_X10_sure_e_X10 hown hK hP 0 rfl rfl 0 (by decide) (wAt hts 5 (w := .fieldLink RX10 20 "FluxBenchModel" "thrown" "I") rfl) (fun _ h9 => h9) rfl dX10_sure_18 ?_
  refine lv_if_le (tgt := 26) hx hb dX10_sure_21 (by decide) (fun c21 => absurd c21 (by decide)) (fun _ => ?_)
  refine lv_dconst0 hx hb dX10_sure_24 ?_
  exact endD hx hb hr hlocks hK hP hD hS (rfl) (Nat.le_of_ble_eq_true rfl) (Nat.le_of_ble_eq_true rfl) dX10_sure_25

def wq_X10_plainLong_e : List Cond := .code yX10_plainLong cX10_plainLong 2 (some .int) :: (([.fieldLink RX10 20 "FluxBenchModel" "thrown" "I", .methodLink RX10 44 yX10_isTrack, .instanceMethod yX10_isTrack, .selects RX10 yX10_isTrack yX10_isTrack, .initialized RX10, .methodLink RX10 31 yX10_refuse, .instanceMethod yX10_refuse, .selects RX10 yX10_refuse yX10_refuse] : List Cond) ++ (u_ws RX10 TX10 8 ++ (wq_X10_isTrack_e ++ (wq_X10_refuse ++ ([] : List Cond)))))
theorem gd_X10_plainLong_e : wq_X10_plainLong_e.all goodWord = true := by decide +kernel
theorem n_X10_plainLong_e_X10 : ∀ w ∈ u_ws RX10 TX10 8, w ∈ wq_X10_plainLong_e := fun w h => List.mem_cons_of_mem _ (List.mem_append_right _ (List.mem_append_left _ h))
theorem h_X10_plainLong_e_0 : GoodIn wq_X10_plainLong_e (wsV RX10 44 RX10 yX10_isTrack wq_X10_isTrack_e) := goodIn_app (goodIn_r _ [2, 3, 4, 5] (by decide +kernel) (by decide +kernel)) (goodIn_sub (fun w h => List.mem_cons_of_mem _ (List.mem_append_right _ (List.mem_append_right _ (List.mem_append_left _ h)))) gd_X10_isTrack_e)
theorem h_X10_plainLong_e_1 : GoodIn wq_X10_plainLong_e (wsV RX10 31 RX10 yX10_refuse wq_X10_refuse) := goodIn_app (goodIn_r _ [6, 7, 8, 5] (by decide +kernel) (by decide +kernel)) (goodIn_sub (fun w h => List.mem_cons_of_mem _ (List.mem_append_right _ (List.mem_append_right _ (List.mem_append_right _ (List.mem_append_left _ h))))) gd_X10_refuse)
set_option maxHeartbeats 4000000 in
set_option maxRecDepth 100000 in
theorem c_X10_plainLong_e (l : Launch) (D : va_G) (kA : Nat → ClassId) (z : Nat) (h0 q : Nat) (th x0 : Int32)  : mI l D (tyL kA) z yX10_plainLong wq_X10_plainLong_e ({ frames := 3, cells := 0, slots := 0, locals := 90 }) [.ref h0, .int x0] [(h0, .inr (11, [.int th, .ref q, .int (nI 8), .int (nI 0), .int (nI 0), .int (nI 0), .int (nI 0), .long 0])), (q, .inr (1, [.int (nI 0), .ref z, .int (nI 0)]))] (fun r w => w = [(h0, .inr (11, [.int (nI 1), .ref q, .int (nI 8), .int (nI 0), .int (nI 0), .int (nI 0), .int (nI 0), .long 0])), (q, .inr (1, [.int (nI 0), .ref z, .int (nI 0)]))]) := by
  refine ofI (cc := cX10_plainLong) (maxL := 2) RX10 rfl (by decide +kernel) rfl (Nat.le_of_ble_eq_true rfl) ?_
  intro p e s m args below meth c A ls hE
  obtain ⟨hx, hb, hr, hml, hts, hown, hlocks, hA, hS, hP, hK, hD, hG, hl⟩ := hE
  have hl : lv_has ls 2 [(0, .ref h0), (1, .int x0)] := hl
  have hH : s.heap = s.heap := rfl
  refine lv_aload_n hx hb dX10_plainLong_0 rfl (lv_at hl 0 rfl) ?_
  refine lv_iconst (v := nI 0) hx hb dX10_plainLong_1 (by decide) ?_
  refine va_put (D := D) (ci := 11) (v := .int (nI 0)) (ty := .int) (C := RX10) (T := TX10) (N := 8) hx hb hts n_X10_plainLong_e_X10 tyX10 tyX10_ok nmX10 hown hK hP hD hS 0 rfl rfl 0 (by decide) (wAt hts 1 (w := .fieldLink RX10 20 "FluxBenchModel" "thrown" "I") rfl) (fun _ h9 => h9) rfl (by decide +kernel) rfl rfl (Nat.le_of_ble_eq_true rfl) dX10_plainLong_2 (fun H locs hP hD hS => ?_)
  have hP : va_P D vwCl [(h0, .inr (11, [.int (nI 0), .ref q, .int (nI 8), .int (nI 0), .int (nI 0), .int (nI 0), .int (nI 0), .long 0])), (q, .inr (1, [.int (nI 0), .ref z, .int (nI 0)]))] H := hP
  have hD : va_D A [(h0, .inr (11, [.int (nI 0), .ref q, .int (nI 8), .int (nI 0), .int (nI 0), .int (nI 0), .int (nI 0), .long 0])), (q, .inr (1, [.int (nI 0), .ref z, .int (nI 0)]))] := hD
  refine lv_aload_n hx hb dX10_plainLong_5 rfl (lv_at hl 0 rfl) ?_
  refine lv_iload_n hx hb dX10_plainLong_6 rfl (lv_at hl 1 rfl) ?_
  have hF := va_free (wc := [(h0, .inr (11, [.int (nI 0), .ref q, .int (nI 8), .int (nI 0), .int (nI 0), .int (nI 0), .int (nI 0), .long 0])), (q, .inr (1, [.int (nI 0), .ref z, .int (nI 0)]))]) hD hS hA [0, 1] rfl
  refine va_calli (va_runV (As := [.int x0]) (rest := []) ⟨hx, hb, hml, hown, hts⟩ (c_X10_isTrack_e l D kA z h0 q (nI 0) x0  _) (cwV 1 hts h_X10_plainLong_e_0 rfl rfl rfl (by decide +kernel) ⟨Nat.le_of_ble_eq_true rfl, Nat.le_of_ble_eq_true rfl⟩) (fPv hK hP hD hS hG hF [0, 1] (by decide) rfl 0 11 rfl rfl rfl) rfl rfl hl.1 rfl (lv_room (Nat.le_of_ble_eq_true rfl)) dX10_plainLong_7 ⟨Nat.le_of_ble_eq_true rfl, Nat.le_of_ble_eq_true rfl⟩) hS (fun q _ h => hF q h) hF (fun r_1 w1 t H locs ht hvm hw hB hz1 hk1 hS => ?_)
  obtain ⟨hP, hD⟩ := fJ (wr := []) hP hD [0, 1] [] rfl rfl (by decide) (by decide) hk1 hF ht hB
  try dsimp only at hw
  obtain ⟨rfl, e_1⟩ := hw
  replace e_1 := e_1.symm
  subst e_1
  have hP : va_P D vwCl [(h0, .inr (11, [.int (nI 0), .ref q, .int (nI 8), .int (nI 0), .int (nI 0), .int (nI 0), .int (nI 0), .long 0])), (q, .inr (1, [.int (nI 0), .ref z, .int (nI 0)]))] H := hP
  have hD : va_D A [(h0, .inr (11, [.int (nI 0), .ref q, .int (nI 8), .int (nI 0), .int (nI 0), .int (nI 0), .int (nI 0), .long 0])), (q, .inr (1, [.int (nI 0), .ref z, .int (nI 0)]))] := hD
  refine lv_if_eq (tgt := 33) hx hb dX10_plainLong_10 (by decide) (fun _ => ?_) (fun c10 => absurd (by decide) c10)
  refine lv_aload_n hx hb dX10_plainLong_33 rfl (lv_at hl 0 rfl) ?_
  refine lv_iconst (v := nI 1) hx hb dX10_plainLong_34 (by decide) ?_
  have hF := va_free (wc := [(h0, .inr (11, [.int (nI 0), .ref q, .int (nI 8), .int (nI 0), .int (nI 0), .int (nI 0), .int (nI 0), .long 0]))]) hD hS hA [0] rfl
  refine va_calli (va_runV (As := [.int (nI 1)]) (rest := []) ⟨hx, hb, hml, hown, hts⟩ (c_X10_refuse l D kA z h0 q (nI 1) (nI 0) (nI 8) (nI 0) (nI 0) (nI 0) (nI 0) 0  _) (cwV 1 hts h_X10_plainLong_e_1 rfl rfl rfl (by decide +kernel) ⟨Nat.le_of_ble_eq_true rfl, Nat.le_of_ble_eq_true rfl⟩) (fPv hK hP hD hS hG hF [0] (by decide) rfl 0 11 rfl rfl rfl) rfl rfl hl.1 rfl (lv_room (Nat.le_of_ble_eq_true rfl)) dX10_plainLong_35 ⟨Nat.le_of_ble_eq_true rfl, Nat.le_of_ble_eq_true rfl⟩) hS (fun q _ h => hF q h) hF (fun r_2 w1 t H locs ht hvm hw hB hz1 hk1 hS => ?_)
  obtain ⟨hP, hD⟩ := fJ (wr := [(q, .inr (1, [.int (nI 0), .ref z, .int (nI 0)]))]) hP hD [0] [1] rfl rfl (by decide) (by decide) hk1 hF ht hB
  try dsimp only at hw
  obtain ⟨rfl, e_2⟩ := hw
  replace e_2 := e_2.symm
  subst e_2
  have hP : va_P D vwCl [(q, .inr (1, [.int (nI 0), .ref z, .int (nI 0)])), (h0, .inr (11, [.int (nI 1), .ref q, .int (nI 8), .int (nI 0), .int (nI 0), .int (nI 0), .int (nI 0), .long 0]))] H := hP
  have hD : va_D A [(q, .inr (1, [.int (nI 0), .ref z, .int (nI 0)])), (h0, .inr (11, [.int (nI 1), .ref q, .int (nI 8), .int (nI 0), .int (nI 0), .int (nI 0), .int (nI 0), .long 0]))] := hD
  have hP := hP.sub (ws' := [(h0, .inr (11, [.int (nI 1), .ref q, .int (nI 8), .int (nI 0), .int (nI 0), .int (nI 0), .int (nI 0), .long 0])), (q, .inr (1, [.int (nI 0), .ref z, .int (nI 0)]))]) [1, 0] rfl
  have hD := hD.sub (ws' := [(h0, .inr (11, [.int (nI 1), .ref q, .int (nI 8), .int (nI 0), .int (nI 0), .int (nI 0), .int (nI 0), .long 0])), (q, .inr (1, [.int (nI 0), .ref z, .int (nI 0)]))]) [1, 0] (by decide) rfl
  exact endI hx hb hr hlocks hK hP hD hS (rfl) (Nat.le_of_ble_eq_true rfl) (Nat.le_of_ble_eq_true rfl) dX10_plainLong_38

def wq_X10_wouldLose_e : List Cond := .code yX10_wouldLose cX10_wouldLose 2 (some .int) :: (([.fieldLink RX10 20 "FluxBenchModel" "thrown" "I", .methodLink RX10 44 yX10_isTrack, .instanceMethod yX10_isTrack, .selects RX10 yX10_isTrack yX10_isTrack, .initialized RX10, .methodLink RX10 31 yX10_refuse, .instanceMethod yX10_refuse, .selects RX10 yX10_refuse yX10_refuse] : List Cond) ++ (u_ws RX10 TX10 8 ++ (wq_X10_isTrack_e ++ (wq_X10_refuse ++ ([] : List Cond)))))
theorem gd_X10_wouldLose_e : wq_X10_wouldLose_e.all goodWord = true := by decide +kernel
theorem n_X10_wouldLose_e_X10 : ∀ w ∈ u_ws RX10 TX10 8, w ∈ wq_X10_wouldLose_e := fun w h => List.mem_cons_of_mem _ (List.mem_append_right _ (List.mem_append_left _ h))
theorem h_X10_wouldLose_e_0 : GoodIn wq_X10_wouldLose_e (wsV RX10 44 RX10 yX10_isTrack wq_X10_isTrack_e) := goodIn_app (goodIn_r _ [2, 3, 4, 5] (by decide +kernel) (by decide +kernel)) (goodIn_sub (fun w h => List.mem_cons_of_mem _ (List.mem_append_right _ (List.mem_append_right _ (List.mem_append_left _ h)))) gd_X10_isTrack_e)
theorem h_X10_wouldLose_e_1 : GoodIn wq_X10_wouldLose_e (wsV RX10 31 RX10 yX10_refuse wq_X10_refuse) := goodIn_app (goodIn_r _ [6, 7, 8, 5] (by decide +kernel) (by decide +kernel)) (goodIn_sub (fun w h => List.mem_cons_of_mem _ (List.mem_append_right _ (List.mem_append_right _ (List.mem_append_right _ (List.mem_append_left _ h))))) gd_X10_refuse)
set_option maxHeartbeats 4000000 in
set_option maxRecDepth 100000 in
theorem c_X10_wouldLose_e (l : Launch) (D : va_G) (kA : Nat → ClassId) (z : Nat) (h0 q : Nat) (th x0 : Int32)  : mI l D (tyL kA) z yX10_wouldLose wq_X10_wouldLose_e ({ frames := 3, cells := 0, slots := 0, locals := 90 }) [.ref h0, .int x0] [(h0, .inr (11, [.int th, .ref q, .int (nI 8), .int (nI 0), .int (nI 0), .int (nI 0), .int (nI 0), .long 0])), (q, .inr (1, [.int (nI 0), .ref z, .int (nI 0)]))] (fun r w => w = [(h0, .inr (11, [.int (nI 1), .ref q, .int (nI 8), .int (nI 0), .int (nI 0), .int (nI 0), .int (nI 0), .long 0])), (q, .inr (1, [.int (nI 0), .ref z, .int (nI 0)]))]) := by
  refine ofI (cc := cX10_wouldLose) (maxL := 2) RX10 rfl (by decide +kernel) rfl (Nat.le_of_ble_eq_true rfl) ?_
  intro p e s m args below meth c A ls hE
  obtain ⟨hx, hb, hr, hml, hts, hown, hlocks, hA, hS, hP, hK, hD, hG, hl⟩ := hE
  have hl : lv_has ls 2 [(0, .ref h0), (1, .int x0)] := hl
  have hH : s.heap = s.heap := rfl
  refine lv_aload_n hx hb dX10_wouldLose_0 rfl (lv_at hl 0 rfl) ?_
  refine lv_iconst (v := nI 0) hx hb dX10_wouldLose_1 (by decide) ?_
  refine va_put (D := D) (ci := 11) (v := .int (nI 0)) (ty := .int) (C := RX10) (T := TX10) (N := 8) hx hb hts n_X10_wouldLose_e_X10 tyX10 tyX10_ok nmX10 hown hK hP hD hS 0 rfl rfl 0 (by decide) (wAt hts 1 (w := .fieldLink RX10 20 "FluxBenchModel" "thrown" "I") rfl) (fun _ h9 => h9) rfl (by decide +kernel) rfl rfl (Nat.le_of_ble_eq_true rfl) dX10_wouldLose_2 (fun H locs hP hD hS => ?_)
  have hP : va_P D vwCl [(h0, .inr (11, [.int (nI 0), .ref q, .int (nI 8), .int (nI 0), .int (nI 0), .int (nI 0), .int (nI 0), .long 0])), (q, .inr (1, [.int (nI 0), .ref z, .int (nI 0)]))] H := hP
  have hD : va_D A [(h0, .inr (11, [.int (nI 0), .ref q, .int (nI 8), .int (nI 0), .int (nI 0), .int (nI 0), .int (nI 0), .long 0])), (q, .inr (1, [.int (nI 0), .ref z, .int (nI 0)]))] := hD
  refine lv_aload_n hx hb dX10_wouldLose_5 rfl (lv_at hl 0 rfl) ?_
  refine lv_iload_n hx hb dX10_wouldLose_6 rfl (lv_at hl 1 rfl) ?_
  have hF := va_free (wc := [(h0, .inr (11, [.int (nI 0), .ref q, .int (nI 8), .int (nI 0), .int (nI 0), .int (nI 0), .int (nI 0), .long 0])), (q, .inr (1, [.int (nI 0), .ref z, .int (nI 0)]))]) hD hS hA [0, 1] rfl
  refine va_calli (va_runV (As := [.int x0]) (rest := []) ⟨hx, hb, hml, hown, hts⟩ (c_X10_isTrack_e l D kA z h0 q (nI 0) x0  _) (cwV 1 hts h_X10_wouldLose_e_0 rfl rfl rfl (by decide +kernel) ⟨Nat.le_of_ble_eq_true rfl, Nat.le_of_ble_eq_true rfl⟩) (fPv hK hP hD hS hG hF [0, 1] (by decide) rfl 0 11 rfl rfl rfl) rfl rfl hl.1 rfl (lv_room (Nat.le_of_ble_eq_true rfl)) dX10_wouldLose_7 ⟨Nat.le_of_ble_eq_true rfl, Nat.le_of_ble_eq_true rfl⟩) hS (fun q _ h => hF q h) hF (fun r_1 w1 t H locs ht hvm hw hB hz1 hk1 hS => ?_)
  obtain ⟨hP, hD⟩ := fJ (wr := []) hP hD [0, 1] [] rfl rfl (by decide) (by decide) hk1 hF ht hB
  try dsimp only at hw
  obtain ⟨rfl, e_1⟩ := hw
  replace e_1 := e_1.symm
  subst e_1
  have hP : va_P D vwCl [(h0, .inr (11, [.int (nI 0), .ref q, .int (nI 8), .int (nI 0), .int (nI 0), .int (nI 0), .int (nI 0), .long 0])), (q, .inr (1, [.int (nI 0), .ref z, .int (nI 0)]))] H := hP
  have hD : va_D A [(h0, .inr (11, [.int (nI 0), .ref q, .int (nI 8), .int (nI 0), .int (nI 0), .int (nI 0), .int (nI 0), .long 0])), (q, .inr (1, [.int (nI 0), .ref z, .int (nI 0)]))] := hD
  refine lv_if_eq (tgt := 30) hx hb dX10_wouldLose_10 (by decide) (fun _ => ?_) (fun c10 => absurd (by decide) c10)
  refine lv_aload_n hx hb dX10_wouldLose_30 rfl (lv_at hl 0 rfl) ?_
  refine lv_iconst (v := nI 1) hx hb dX10_wouldLose_31 (by decide) ?_
  have hF := va_free (wc := [(h0, .inr (11, [.int (nI 0), .ref q, .int (nI 8), .int (nI 0), .int (nI 0), .int (nI 0), .int (nI 0), .long 0]))]) hD hS hA [0] rfl
  refine va_calli (va_runV (As := [.int (nI 1)]) (rest := []) ⟨hx, hb, hml, hown, hts⟩ (c_X10_refuse l D kA z h0 q (nI 1) (nI 0) (nI 8) (nI 0) (nI 0) (nI 0) (nI 0) 0  _) (cwV 1 hts h_X10_wouldLose_e_1 rfl rfl rfl (by decide +kernel) ⟨Nat.le_of_ble_eq_true rfl, Nat.le_of_ble_eq_true rfl⟩) (fPv hK hP hD hS hG hF [0] (by decide) rfl 0 11 rfl rfl rfl) rfl rfl hl.1 rfl (lv_room (Nat.le_of_ble_eq_true rfl)) dX10_wouldLose_32 ⟨Nat.le_of_ble_eq_true rfl, Nat.le_of_ble_eq_true rfl⟩) hS (fun q _ h => hF q h) hF (fun r_2 w1 t H locs ht hvm hw hB hz1 hk1 hS => ?_)
  obtain ⟨hP, hD⟩ := fJ (wr := [(q, .inr (1, [.int (nI 0), .ref z, .int (nI 0)]))]) hP hD [0] [1] rfl rfl (by decide) (by decide) hk1 hF ht hB
  try dsimp only at hw
  obtain ⟨rfl, e_2⟩ := hw
  replace e_2 := e_2.symm
  subst e_2
  have hP : va_P D vwCl [(q, .inr (1, [.int (nI 0), .ref z, .int (nI 0)])), (h0, .inr (11, [.int (nI 1), .ref q, .int (nI 8), .int (nI 0), .int (nI 0), .int (nI 0), .int (nI 0), .long 0]))] H := hP
  have hD : va_D A [(q, .inr (1, [.int (nI 0), .ref z, .int (nI 0)])), (h0, .inr (11, [.int (nI 1), .ref q, .int (nI 8), .int (nI 0), .int (nI 0), .int (nI 0), .int (nI 0), .long 0]))] := hD
  have hP := hP.sub (ws' := [(h0, .inr (11, [.int (nI 1), .ref q, .int (nI 8), .int (nI 0), .int (nI 0), .int (nI 0), .int (nI 0), .long 0])), (q, .inr (1, [.int (nI 0), .ref z, .int (nI 0)]))]) [1, 0] rfl
  have hD := hD.sub (ws' := [(h0, .inr (11, [.int (nI 1), .ref q, .int (nI 8), .int (nI 0), .int (nI 0), .int (nI 0), .int (nI 0), .long 0])), (q, .inr (1, [.int (nI 0), .ref z, .int (nI 0)]))]) [1, 0] (by decide) rfl
  exact endI hx hb hr hlocks hK hP hD hS (rfl) (Nat.le_of_ble_eq_true rfl) (Nat.le_of_ble_eq_true rfl) dX10_wouldLose_35

def wq_X10_goodBy_e : List Cond := .code yX10_goodBy cX10_goodBy 3 (some .int) :: (([.fieldLink RX10 20 "FluxBenchModel" "thrown" "I", .methodLink RX10 44 yX10_isTrack, .instanceMethod yX10_isTrack, .selects RX10 yX10_isTrack yX10_isTrack, .initialized RX10, .methodLink RX10 31 yX10_refuse, .instanceMethod yX10_refuse, .selects RX10 yX10_refuse yX10_refuse] : List Cond) ++ (u_ws RX10 TX10 8 ++ (wq_X10_isTrack_e ++ (wq_X10_refuse ++ ([] : List Cond)))))
theorem gd_X10_goodBy_e : wq_X10_goodBy_e.all goodWord = true := by decide +kernel
theorem n_X10_goodBy_e_X10 : ∀ w ∈ u_ws RX10 TX10 8, w ∈ wq_X10_goodBy_e := fun w h => List.mem_cons_of_mem _ (List.mem_append_right _ (List.mem_append_left _ h))
theorem h_X10_goodBy_e_0 : GoodIn wq_X10_goodBy_e (wsV RX10 44 RX10 yX10_isTrack wq_X10_isTrack_e) := goodIn_app (goodIn_r _ [2, 3, 4, 5] (by decide +kernel) (by decide +kernel)) (goodIn_sub (fun w h => List.mem_cons_of_mem _ (List.mem_append_right _ (List.mem_append_right _ (List.mem_append_left _ h)))) gd_X10_isTrack_e)
theorem h_X10_goodBy_e_1 : GoodIn wq_X10_goodBy_e (wsV RX10 31 RX10 yX10_refuse wq_X10_refuse) := goodIn_app (goodIn_r _ [6, 7, 8, 5] (by decide +kernel) (by decide +kernel)) (goodIn_sub (fun w h => List.mem_cons_of_mem _ (List.mem_append_right _ (List.mem_append_right _ (List.mem_append_right _ (List.mem_append_left _ h))))) gd_X10_refuse)
set_option maxHeartbeats 4000000 in
set_option maxRecDepth 100000 in
theorem c_X10_goodBy_e (l : Launch) (D : va_G) (kA : Nat → ClassId) (z : Nat) (h0 q : Nat) (th x0 x1 : Int32)  : mI l D (tyL kA) z yX10_goodBy wq_X10_goodBy_e ({ frames := 3, cells := 0, slots := 0, locals := 90 }) [.ref h0, .int x0, .int x1] [(h0, .inr (11, [.int th, .ref q, .int (nI 8), .int (nI 0), .int (nI 0), .int (nI 0), .int (nI 0), .long 0])), (q, .inr (1, [.int (nI 0), .ref z, .int (nI 0)]))] (fun r w => w = [(h0, .inr (11, [.int (nI 1), .ref q, .int (nI 8), .int (nI 0), .int (nI 0), .int (nI 0), .int (nI 0), .long 0])), (q, .inr (1, [.int (nI 0), .ref z, .int (nI 0)]))]) := by
  refine ofI (cc := cX10_goodBy) (maxL := 3) RX10 rfl (by decide +kernel) rfl (Nat.le_of_ble_eq_true rfl) ?_
  intro p e s m args below meth c A ls hE
  obtain ⟨hx, hb, hr, hml, hts, hown, hlocks, hA, hS, hP, hK, hD, hG, hl⟩ := hE
  have hl : lv_has ls 3 [(0, .ref h0), (1, .int x0), (2, .int x1)] := hl
  have hH : s.heap = s.heap := rfl
  refine lv_aload_n hx hb dX10_goodBy_0 rfl (lv_at hl 0 rfl) ?_
  refine lv_iconst (v := nI 0) hx hb dX10_goodBy_1 (by decide) ?_
  refine va_put (D := D) (ci := 11) (v := .int (nI 0)) (ty := .int) (C := RX10) (T := TX10) (N := 8) hx hb hts n_X10_goodBy_e_X10 tyX10 tyX10_ok nmX10 hown hK hP hD hS 0 rfl rfl 0 (by decide) (wAt hts 1 (w := .fieldLink RX10 20 "FluxBenchModel" "thrown" "I") rfl) (fun _ h9 => h9) rfl (by decide +kernel) rfl rfl (Nat.le_of_ble_eq_true rfl) dX10_goodBy_2 (fun H locs hP hD hS => ?_)
  have hP : va_P D vwCl [(h0, .inr (11, [.int (nI 0), .ref q, .int (nI 8), .int (nI 0), .int (nI 0), .int (nI 0), .int (nI 0), .long 0])), (q, .inr (1, [.int (nI 0), .ref z, .int (nI 0)]))] H := hP
  have hD : va_D A [(h0, .inr (11, [.int (nI 0), .ref q, .int (nI 8), .int (nI 0), .int (nI 0), .int (nI 0), .int (nI 0), .long 0])), (q, .inr (1, [.int (nI 0), .ref z, .int (nI 0)]))] := hD
  refine lv_aload_n hx hb dX10_goodBy_5 rfl (lv_at hl 0 rfl) ?_
  refine lv_iload_n hx hb dX10_goodBy_6 rfl (lv_at hl 1 rfl) ?_
  have hF := va_free (wc := [(h0, .inr (11, [.int (nI 0), .ref q, .int (nI 8), .int (nI 0), .int (nI 0), .int (nI 0), .int (nI 0), .long 0])), (q, .inr (1, [.int (nI 0), .ref z, .int (nI 0)]))]) hD hS hA [0, 1] rfl
  refine va_calli (va_runV (As := [.int x0]) (rest := []) ⟨hx, hb, hml, hown, hts⟩ (c_X10_isTrack_e l D kA z h0 q (nI 0) x0  _) (cwV 1 hts h_X10_goodBy_e_0 rfl rfl rfl (by decide +kernel) ⟨Nat.le_of_ble_eq_true rfl, Nat.le_of_ble_eq_true rfl⟩) (fPv hK hP hD hS hG hF [0, 1] (by decide) rfl 0 11 rfl rfl rfl) rfl rfl hl.1 rfl (lv_room (Nat.le_of_ble_eq_true rfl)) dX10_goodBy_7 ⟨Nat.le_of_ble_eq_true rfl, Nat.le_of_ble_eq_true rfl⟩) hS (fun q _ h => hF q h) hF (fun r_1 w1 t H locs ht hvm hw hB hz1 hk1 hS => ?_)
  obtain ⟨hP, hD⟩ := fJ (wr := []) hP hD [0, 1] [] rfl rfl (by decide) (by decide) hk1 hF ht hB
  try dsimp only at hw
  obtain ⟨rfl, e_1⟩ := hw
  replace e_1 := e_1.symm
  subst e_1
  have hP : va_P D vwCl [(h0, .inr (11, [.int (nI 0), .ref q, .int (nI 8), .int (nI 0), .int (nI 0), .int (nI 0), .int (nI 0), .long 0])), (q, .inr (1, [.int (nI 0), .ref z, .int (nI 0)]))] H := hP
  have hD : va_D A [(h0, .inr (11, [.int (nI 0), .ref q, .int (nI 8), .int (nI 0), .int (nI 0), .int (nI 0), .int (nI 0), .long 0])), (q, .inr (1, [.int (nI 0), .ref z, .int (nI 0)]))] := hD
  refine lv_if_ne (tgt := 19) hx hb dX10_goodBy_10 (by decide) (fun c10 => absurd (by decide) c10) (fun _ => ?_)
  refine lv_aload_n hx hb dX10_goodBy_13 rfl (lv_at hl 0 rfl) ?_
  refine lv_iconst (v := nI 1) hx hb dX10_goodBy_14 (by decide) ?_
  have hF := va_free (wc := [(h0, .inr (11, [.int (nI 0), .ref q, .int (nI 8), .int (nI 0), .int (nI 0), .int (nI 0), .int (nI 0), .long 0]))]) hD hS hA [0] rfl
  refine va_calli (va_runV (As := [.int (nI 1)]) (rest := []) ⟨hx, hb, hml, hown, hts⟩ (c_X10_refuse l D kA z h0 q (nI 1) (nI 0) (nI 8) (nI 0) (nI 0) (nI 0) (nI 0) 0  _) (cwV 1 hts h_X10_goodBy_e_1 rfl rfl rfl (by decide +kernel) ⟨Nat.le_of_ble_eq_true rfl, Nat.le_of_ble_eq_true rfl⟩) (fPv hK hP hD hS hG hF [0] (by decide) rfl 0 11 rfl rfl rfl) rfl rfl hl.1 rfl (lv_room (Nat.le_of_ble_eq_true rfl)) dX10_goodBy_15 ⟨Nat.le_of_ble_eq_true rfl, Nat.le_of_ble_eq_true rfl⟩) hS (fun q _ h => hF q h) hF (fun r_2 w1 t H locs ht hvm hw hB hz1 hk1 hS => ?_)
  obtain ⟨hP, hD⟩ := fJ (wr := [(q, .inr (1, [.int (nI 0), .ref z, .int (nI 0)]))]) hP hD [0] [1] rfl rfl (by decide) (by decide) hk1 hF ht hB
  try dsimp only at hw
  obtain ⟨rfl, e_2⟩ := hw
  replace e_2 := e_2.symm
  subst e_2
  have hP : va_P D vwCl [(q, .inr (1, [.int (nI 0), .ref z, .int (nI 0)])), (h0, .inr (11, [.int (nI 1), .ref q, .int (nI 8), .int (nI 0), .int (nI 0), .int (nI 0), .int (nI 0), .long 0]))] H := hP
  have hD : va_D A [(q, .inr (1, [.int (nI 0), .ref z, .int (nI 0)])), (h0, .inr (11, [.int (nI 1), .ref q, .int (nI 8), .int (nI 0), .int (nI 0), .int (nI 0), .int (nI 0), .long 0]))] := hD
  have hP := hP.sub (ws' := [(h0, .inr (11, [.int (nI 1), .ref q, .int (nI 8), .int (nI 0), .int (nI 0), .int (nI 0), .int (nI 0), .long 0])), (q, .inr (1, [.int (nI 0), .ref z, .int (nI 0)]))]) [1, 0] rfl
  have hD := hD.sub (ws' := [(h0, .inr (11, [.int (nI 1), .ref q, .int (nI 8), .int (nI 0), .int (nI 0), .int (nI 0), .int (nI 0), .long 0])), (q, .inr (1, [.int (nI 0), .ref z, .int (nI 0)]))]) [1, 0] (by decide) rfl
  exact endI hx hb hr hlocks hK hP hD hS (rfl) (Nat.le_of_ble_eq_true rfl) (Nat.le_of_ble_eq_true rfl) dX10_goodBy_18

def wq_X10_speed_ok : List Cond := .code yX10_speed cX10_speed 3 (some .int) :: (([.fieldLink RX10 20 "FluxBenchModel" "thrown" "I", .methodLink RX10 27 yX10_is, .static yX10_is, .initialized RX10, .fieldLink RX10 16 "FluxBenchModel" "speed" "I"] : List Cond) ++ (u_ws RX10 TX10 8 ++ (wq_X10_is ++ ([] : List Cond))))
theorem gd_X10_speed_ok : wq_X10_speed_ok.all goodWord = true := by decide +kernel
theorem n_X10_speed_ok_X10 : ∀ w ∈ u_ws RX10 TX10 8, w ∈ wq_X10_speed_ok := fun w h => List.mem_cons_of_mem _ (List.mem_append_right _ (List.mem_append_left _ h))
theorem h_X10_speed_ok_0 : GoodIn wq_X10_speed_ok (va_wsS RX10 27 yX10_is wq_X10_is) := goodIn_app (goodIn_r _ [2, 3, 4] (by decide +kernel) (by decide +kernel)) (goodIn_sub (fun w h => List.mem_cons_of_mem _ (List.mem_append_right _ (List.mem_append_right _ (List.mem_append_left _ h)))) gd_X10_is)
set_option maxHeartbeats 4000000 in
set_option maxRecDepth 100000 in
theorem c_X10_speed_ok (l : Launch) (D : va_G) (kA : Nat → ClassId) (z : Nat) (h0 q n : Nat) (th : Int32) (h1 : 6 ≤ n) (h2 : n ≤ 11) : mI l D (tyL kA) z yX10_speed wq_X10_speed_ok ({ frames := 1, cells := 0, slots := 0, locals := 40 }) [.ref h0, .int (nI n)] [(h0, .inr (11, [.int th, .ref q, .int (nI 8), .int (nI 0), .int (nI 0), .int (nI 0), .int (nI 0), .long 0])), (q, .inr (1, [.int (nI 0), .ref z, .int (nI 0)]))] (fun r w => w = [(h0, .inr (11, [.int (nI 0), .ref q, .int (nI n), .int (nI 0), .int (nI 0), .int (nI 0), .int (nI 0), .long 0])), (q, .inr (1, [.int (nI 0), .ref z, .int (nI 0)]))] ∧ r = nI 8) := by
  refine ofI (cc := cX10_speed) (maxL := 3) RX10 rfl (by decide +kernel) rfl (Nat.le_of_ble_eq_true rfl) ?_
  intro p e s m args below meth c A ls hE
  obtain ⟨hx, hb, hr, hml, hts, hown, hlocks, hA, hS, hP, hK, hD, hG, hl⟩ := hE
  have hl : lv_has ls 3 [(0, .ref h0), (1, .int (nI n))] := hl
  have hH : s.heap = s.heap := rfl
  refine lv_aload_n hx hb dX10_speed_0 rfl (lv_at hl 0 rfl) ?_
  refine lv_iconst (v := nI 0) hx hb dX10_speed_1 (by decide) ?_
  refine va_put (D := D) (ci := 11) (v := .int (nI 0)) (ty := .int) (C := RX10) (T := TX10) (N := 8) hx hb hts n_X10_speed_ok_X10 tyX10 tyX10_ok nmX10 hown hK hP hD hS 0 rfl rfl 0 (by decide) (wAt hts 1 (w := .fieldLink RX10 20 "FluxBenchModel" "thrown" "I") rfl) (fun _ h9 => h9) rfl (by decide +kernel) rfl rfl (Nat.le_of_ble_eq_true rfl) dX10_speed_2 (fun H locs hP hD hS => ?_)
  have hP : va_P D vwCl [(h0, .inr (11, [.int (nI 0), .ref q, .int (nI 8), .int (nI 0), .int (nI 0), .int (nI 0), .int (nI 0), .long 0])), (q, .inr (1, [.int (nI 0), .ref z, .int (nI 0)]))] H := hP
  have hD : va_D A [(h0, .inr (11, [.int (nI 0), .ref q, .int (nI 8), .int (nI 0), .int (nI 0), .int (nI 0), .int (nI 0), .long 0])), (q, .inr (1, [.int (nI 0), .ref z, .int (nI 0)]))] := hD
  refine lv_iload_n hx hb dX10_speed_5 rfl (lv_at hl 1 rfl) ?_
  refine lv_bipush (v := nI 6) hx hb dX10_speed_6 (by decide) ?_
  refine lv_bipush (v := nI 11) hx hb dX10_speed_8 (by decide) ?_
  have hF := va_free (wc := []) hD hS hA [] rfl
  refine va_calli (va_runS (As := [.int (nI n), .int (nI 6), .int (nI 11)]) (rest := []) ⟨hx, hb, hml, hown, hts⟩ (c_X10_is l D kA z (nI n) (nI 6) (nI 11)  _) (va_cwS 3 hts h_X10_speed_ok_0 rfl rfl rfl (by decide +kernel) ⟨Nat.le_of_ble_eq_true rfl, Nat.le_of_ble_eq_true rfl⟩) (fPs hK hP hD hS hG hF [] (by decide) rfl) rfl rfl hl.1 rfl (lv_room (Nat.le_of_ble_eq_true rfl)) dX10_speed_10 ⟨Nat.le_of_ble_eq_true rfl, Nat.le_of_ble_eq_true rfl⟩) hS (fun q _ h => hF q h) hF (fun r_1 w1 t H locs ht hvm hw hB hz1 hk1 hS => ?_)
  obtain ⟨hP, hD⟩ := fJ (wr := [(h0, .inr (11, [.int (nI 0), .ref q, .int (nI 8), .int (nI 0), .int (nI 0), .int (nI 0), .int (nI 0), .long 0])), (q, .inr (1, [.int (nI 0), .ref z, .int (nI 0)]))]) hP hD [] [0, 1] rfl rfl (by decide) (by decide) hk1 hF ht hB
  try dsimp only at hw
  obtain ⟨rfl, e_1⟩ := hw
  replace e_1 := e_1.symm
  subst e_1
  have hP : va_P D vwCl [(h0, .inr (11, [.int (nI 0), .ref q, .int (nI 8), .int (nI 0), .int (nI 0), .int (nI 0), .int (nI 0), .long 0])), (q, .inr (1, [.int (nI 0), .ref z, .int (nI 0)]))] H := hP
  have hD : va_D A [(h0, .inr (11, [.int (nI 0), .ref q, .int (nI 8), .int (nI 0), .int (nI 0), .int (nI 0), .int (nI 0), .long 0])), (q, .inr (1, [.int (nI 0), .ref z, .int (nI 0)]))] := hD
  rw [isY h1 h2 (by decide)]
  refine lv_if_ne (tgt := 22) hx hb dX10_speed_13 (by decide) (fun _ => ?_) (fun c13 => absurd c13 (by decide))
  refine lv_aload_n hx hb dX10_speed_22 rfl (lv_at hl 0 rfl) ?_
  refine va_get (D := D) (ci := 11) (v := .int (nI 8)) (C := RX10) (T := TX10) (N := 8) hx hb hts n_X10_speed_ok_X10 hown hK hP 0 rfl rfl 2 (by decide) (wAt hts 5 (w := .fieldLink RX10 16 "FluxBenchModel" "speed" "I") rfl) (fun _ h9 => h9) rfl dX10_speed_23 ?_
  refine lv_istore_n (lv' := [(2, .int (nI 8)), (0, .ref h0), (1, .int (nI n))]) hx hb dX10_speed_26 rfl hl (by decide) rfl (fun ls hl => ?_)
  refine lv_aload_n hx hb dX10_speed_27 rfl (lv_at hl 1 rfl) ?_
  refine lv_iload_n hx hb dX10_speed_28 rfl (lv_at hl 2 rfl) ?_
  refine va_put (D := D) (ci := 11) (v := .int (nI n)) (ty := .int) (C := RX10) (T := TX10) (N := 8) hx hb hts n_X10_speed_ok_X10 tyX10 tyX10_ok nmX10 hown hK hP hD hS 0 rfl rfl 2 (by decide) (wAt hts 5 (w := .fieldLink RX10 16 "FluxBenchModel" "speed" "I") rfl) (fun _ h9 => h9) rfl (by decide +kernel) rfl rfl (Nat.le_of_ble_eq_true rfl) dX10_speed_29 (fun H locs hP hD hS => ?_)
  have hP : va_P D vwCl [(h0, .inr (11, [.int (nI 0), .ref q, .int (nI n), .int (nI 0), .int (nI 0), .int (nI 0), .int (nI 0), .long 0])), (q, .inr (1, [.int (nI 0), .ref z, .int (nI 0)]))] H := hP
  have hD : va_D A [(h0, .inr (11, [.int (nI 0), .ref q, .int (nI n), .int (nI 0), .int (nI 0), .int (nI 0), .int (nI 0), .long 0])), (q, .inr (1, [.int (nI 0), .ref z, .int (nI 0)]))] := hD
  refine lv_iload_n hx hb dX10_speed_32 rfl (lv_at hl 0 rfl) ?_
  exact endI hx hb hr hlocks hK hP hD hS (⟨rfl, by first | rfl | assumption | omega | (rw [if_pos (by omega)]; first | done | rfl) | (rw [if_neg (by omega)]; first | done | rfl)⟩) (Nat.le_of_ble_eq_true rfl) (Nat.le_of_ble_eq_true rfl) dX10_speed_33

def wq_X10_speed_no : List Cond := .code yX10_speed cX10_speed 3 (some .int) :: (([.fieldLink RX10 20 "FluxBenchModel" "thrown" "I", .methodLink RX10 27 yX10_is, .static yX10_is, .initialized RX10, .methodLink RX10 31 yX10_refuse, .instanceMethod yX10_refuse, .selects RX10 yX10_refuse yX10_refuse] : List Cond) ++ (u_ws RX10 TX10 8 ++ (wq_X10_is ++ (wq_X10_refuse ++ ([] : List Cond)))))
theorem gd_X10_speed_no : wq_X10_speed_no.all goodWord = true := by decide +kernel
theorem n_X10_speed_no_X10 : ∀ w ∈ u_ws RX10 TX10 8, w ∈ wq_X10_speed_no := fun w h => List.mem_cons_of_mem _ (List.mem_append_right _ (List.mem_append_left _ h))
theorem h_X10_speed_no_0 : GoodIn wq_X10_speed_no (va_wsS RX10 27 yX10_is wq_X10_is) := goodIn_app (goodIn_r _ [2, 3, 4] (by decide +kernel) (by decide +kernel)) (goodIn_sub (fun w h => List.mem_cons_of_mem _ (List.mem_append_right _ (List.mem_append_right _ (List.mem_append_left _ h)))) gd_X10_is)
theorem h_X10_speed_no_1 : GoodIn wq_X10_speed_no (wsV RX10 31 RX10 yX10_refuse wq_X10_refuse) := goodIn_app (goodIn_r _ [5, 6, 7, 4] (by decide +kernel) (by decide +kernel)) (goodIn_sub (fun w h => List.mem_cons_of_mem _ (List.mem_append_right _ (List.mem_append_right _ (List.mem_append_right _ (List.mem_append_left _ h))))) gd_X10_refuse)
set_option maxHeartbeats 4000000 in
set_option maxRecDepth 100000 in
theorem c_X10_speed_no (l : Launch) (D : va_G) (kA : Nat → ClassId) (z : Nat) (h0 q : Nat) (th x : Int32) (hxx : ∀ n : Nat, 6 ≤ n → n ≤ 11 → x ≠ nI n) : mI l D (tyL kA) z yX10_speed wq_X10_speed_no ({ frames := 1, cells := 0, slots := 0, locals := 40 }) [.ref h0, .int x] [(h0, .inr (11, [.int th, .ref q, .int (nI 8), .int (nI 0), .int (nI 0), .int (nI 0), .int (nI 0), .long 0])), (q, .inr (1, [.int (nI 0), .ref z, .int (nI 0)]))] (fun r w => w = [(h0, .inr (11, [.int (nI 1), .ref q, .int (nI 8), .int (nI 0), .int (nI 0), .int (nI 0), .int (nI 0), .long 0])), (q, .inr (1, [.int (nI 0), .ref z, .int (nI 0)]))]) := by
  refine ofI (cc := cX10_speed) (maxL := 3) RX10 rfl (by decide +kernel) rfl (Nat.le_of_ble_eq_true rfl) ?_
  intro p e s m args below meth c A ls hE
  obtain ⟨hx, hb, hr, hml, hts, hown, hlocks, hA, hS, hP, hK, hD, hG, hl⟩ := hE
  have hl : lv_has ls 3 [(0, .ref h0), (1, .int x)] := hl
  have hH : s.heap = s.heap := rfl
  refine lv_aload_n hx hb dX10_speed_0 rfl (lv_at hl 0 rfl) ?_
  refine lv_iconst (v := nI 0) hx hb dX10_speed_1 (by decide) ?_
  refine va_put (D := D) (ci := 11) (v := .int (nI 0)) (ty := .int) (C := RX10) (T := TX10) (N := 8) hx hb hts n_X10_speed_no_X10 tyX10 tyX10_ok nmX10 hown hK hP hD hS 0 rfl rfl 0 (by decide) (wAt hts 1 (w := .fieldLink RX10 20 "FluxBenchModel" "thrown" "I") rfl) (fun _ h9 => h9) rfl (by decide +kernel) rfl rfl (Nat.le_of_ble_eq_true rfl) dX10_speed_2 (fun H locs hP hD hS => ?_)
  have hP : va_P D vwCl [(h0, .inr (11, [.int (nI 0), .ref q, .int (nI 8), .int (nI 0), .int (nI 0), .int (nI 0), .int (nI 0), .long 0])), (q, .inr (1, [.int (nI 0), .ref z, .int (nI 0)]))] H := hP
  have hD : va_D A [(h0, .inr (11, [.int (nI 0), .ref q, .int (nI 8), .int (nI 0), .int (nI 0), .int (nI 0), .int (nI 0), .long 0])), (q, .inr (1, [.int (nI 0), .ref z, .int (nI 0)]))] := hD
  refine lv_iload_n hx hb dX10_speed_5 rfl (lv_at hl 1 rfl) ?_
  refine lv_bipush (v := nI 6) hx hb dX10_speed_6 (by decide) ?_
  refine lv_bipush (v := nI 11) hx hb dX10_speed_8 (by decide) ?_
  have hF := va_free (wc := []) hD hS hA [] rfl
  refine va_calli (va_runS (As := [.int x, .int (nI 6), .int (nI 11)]) (rest := []) ⟨hx, hb, hml, hown, hts⟩ (c_X10_is l D kA z x (nI 6) (nI 11)  _) (va_cwS 3 hts h_X10_speed_no_0 rfl rfl rfl (by decide +kernel) ⟨Nat.le_of_ble_eq_true rfl, Nat.le_of_ble_eq_true rfl⟩) (fPs hK hP hD hS hG hF [] (by decide) rfl) rfl rfl hl.1 rfl (lv_room (Nat.le_of_ble_eq_true rfl)) dX10_speed_10 ⟨Nat.le_of_ble_eq_true rfl, Nat.le_of_ble_eq_true rfl⟩) hS (fun q _ h => hF q h) hF (fun r_1 w1 t H locs ht hvm hw hB hz1 hk1 hS => ?_)
  obtain ⟨hP, hD⟩ := fJ (wr := [(h0, .inr (11, [.int (nI 0), .ref q, .int (nI 8), .int (nI 0), .int (nI 0), .int (nI 0), .int (nI 0), .long 0])), (q, .inr (1, [.int (nI 0), .ref z, .int (nI 0)]))]) hP hD [] [0, 1] rfl rfl (by decide) (by decide) hk1 hF ht hB
  try dsimp only at hw
  obtain ⟨rfl, e_1⟩ := hw
  replace e_1 := e_1.symm
  subst e_1
  have hP : va_P D vwCl [(h0, .inr (11, [.int (nI 0), .ref q, .int (nI 8), .int (nI 0), .int (nI 0), .int (nI 0), .int (nI 0), .long 0])), (q, .inr (1, [.int (nI 0), .ref z, .int (nI 0)]))] H := hP
  have hD : va_D A [(h0, .inr (11, [.int (nI 0), .ref q, .int (nI 8), .int (nI 0), .int (nI 0), .int (nI 0), .int (nI 0), .long 0])), (q, .inr (1, [.int (nI 0), .ref z, .int (nI 0)]))] := hD
  rw [isN (by decide) (by decide) hxx]
  refine lv_if_ne (tgt := 22) hx hb dX10_speed_13 (by decide) (fun c13 => absurd (by decide) c13) (fun _ => ?_)
  refine lv_aload_n hx hb dX10_speed_16 rfl (lv_at hl 0 rfl) ?_
  refine lv_iconst (v := nI 1) hx hb dX10_speed_17 (by decide) ?_
  have hF := va_free (wc := [(h0, .inr (11, [.int (nI 0), .ref q, .int (nI 8), .int (nI 0), .int (nI 0), .int (nI 0), .int (nI 0), .long 0]))]) hD hS hA [0] rfl
  refine va_calli (va_runV (As := [.int (nI 1)]) (rest := []) ⟨hx, hb, hml, hown, hts⟩ (c_X10_refuse l D kA z h0 q (nI 1) (nI 0) (nI 8) (nI 0) (nI 0) (nI 0) (nI 0) 0  _) (cwV 1 hts h_X10_speed_no_1 rfl rfl rfl (by decide +kernel) ⟨Nat.le_of_ble_eq_true rfl, Nat.le_of_ble_eq_true rfl⟩) (fPv hK hP hD hS hG hF [0] (by decide) rfl 0 11 rfl rfl rfl) rfl rfl hl.1 rfl (lv_room (Nat.le_of_ble_eq_true rfl)) dX10_speed_18 ⟨Nat.le_of_ble_eq_true rfl, Nat.le_of_ble_eq_true rfl⟩) hS (fun q _ h => hF q h) hF (fun r_2 w1 t H locs ht hvm hw hB hz1 hk1 hS => ?_)
  obtain ⟨hP, hD⟩ := fJ (wr := [(q, .inr (1, [.int (nI 0), .ref z, .int (nI 0)]))]) hP hD [0] [1] rfl rfl (by decide) (by decide) hk1 hF ht hB
  try dsimp only at hw
  obtain ⟨rfl, e_2⟩ := hw
  replace e_2 := e_2.symm
  subst e_2
  have hP : va_P D vwCl [(q, .inr (1, [.int (nI 0), .ref z, .int (nI 0)])), (h0, .inr (11, [.int (nI 1), .ref q, .int (nI 8), .int (nI 0), .int (nI 0), .int (nI 0), .int (nI 0), .long 0]))] H := hP
  have hD : va_D A [(q, .inr (1, [.int (nI 0), .ref z, .int (nI 0)])), (h0, .inr (11, [.int (nI 1), .ref q, .int (nI 8), .int (nI 0), .int (nI 0), .int (nI 0), .int (nI 0), .long 0]))] := hD
  have hP := hP.sub (ws' := [(h0, .inr (11, [.int (nI 1), .ref q, .int (nI 8), .int (nI 0), .int (nI 0), .int (nI 0), .int (nI 0), .long 0])), (q, .inr (1, [.int (nI 0), .ref z, .int (nI 0)]))]) [1, 0] rfl
  have hD := hD.sub (ws' := [(h0, .inr (11, [.int (nI 1), .ref q, .int (nI 8), .int (nI 0), .int (nI 0), .int (nI 0), .int (nI 0), .long 0])), (q, .inr (1, [.int (nI 0), .ref z, .int (nI 0)]))]) [1, 0] (by decide) rfl
  exact endI hx hb hr hlocks hK hP hD hS (rfl) (Nat.le_of_ble_eq_true rfl) (Nat.le_of_ble_eq_true rfl) dX10_speed_21

def wq_Jx4a65c_grow_92f84 : List Cond := .code yJx4a65c_grow_92f84 cJx4a65c_grow_92f84 4 (some (.array (.object "java/lang/Object"))) :: (([.fieldLink RJx4a65c 9 "java/util/ArrayList" "elementData" "[Ljava/lang/Object;", .fieldLink RJx4a65c 39 "java/util/ArrayList" "DEFAULTCAPACITY_EMPTY_ELEMENTDATA" "[Ljava/lang/Object;", .methodLink RJx4a65c 79 Lib.Math.max.name, .static Lib.Math.max.name, .initialized "java/lang/Math", .code Lib.Math.max.name Lib.Math.max.code 2 (some .int), .classLink RJx4a65c 7 "java/lang/Object"] : List Cond) ++ (u_ws RJx4a65c TJx4a65c 3 ++ ([] : List Cond)))
theorem gd_Jx4a65c_grow_92f84 : wq_Jx4a65c_grow_92f84.all goodWord = true := by decide +kernel
theorem n_Jx4a65c_grow_92f84_Jx4a65c : ∀ w ∈ u_ws RJx4a65c TJx4a65c 3, w ∈ wq_Jx4a65c_grow_92f84 := fun w h => List.mem_cons_of_mem _ (List.mem_append_right _ (List.mem_append_left _ h))
set_option maxHeartbeats 4000000 in
set_option maxRecDepth 100000 in
theorem c_Jx4a65c_grow_92f84 (l : Launch) (D : va_G) (kA : Nat → ClassId) (z : Nat) (h0 : Nat) (mc : Int32)  : mR l D (tyL kA) z yJx4a65c_grow_92f84 wq_Jx4a65c_grow_92f84 ({ frames := 1, cells := 1, slots := 10, locals := 30 }) [.ref h0, .int (nI 1)] [(h0, .inr (1, [.int mc, .ref z, .int (nI 0)]))] (fun r w => w = [(h0, .inr (1, [.int mc, .ref r, .int (nI 0)])), (r, .inl (kA 3, 10, .inr (.inr (.inr (.inr (fun _ => none))))))]) := by
  refine ofR (cc := cJx4a65c_grow_92f84) (maxL := 4) RJx4a65c rfl (by decide +kernel) rfl (Nat.le_of_ble_eq_true rfl) ?_
  intro p e s m args below meth c A ls hE
  obtain ⟨hx, hb, hr, hml, hts, hown, hlocks, hA, hS, hP, hK, hD, hG, hl⟩ := hE
  have hl : lv_has ls 4 [(0, .ref h0), (1, .int (nI 1))] := hl
  have hH : s.heap = s.heap := rfl
  refine lv_aload_n hx hb dJx4a65c_grow_92f84_0 rfl (lv_at hl 0 rfl) ?_
  refine va_get (D := D) (ci := 1) (v := .ref z) (C := RJx4a65c) (T := TJx4a65c) (N := 3) hx hb hts n_Jx4a65c_grow_92f84_Jx4a65c hown hK hP 0 rfl rfl 1 (by decide) (wAt hts 1 (w := .fieldLink RJx4a65c 9 "java/util/ArrayList" "elementData" "[Ljava/lang/Object;") rfl) (fun _ h9 => h9) rfl dJx4a65c_grow_92f84_1 ?_
  refine va_tlen (v := nI 0) hx hb hG.2.2.2.2.2.1 hS rfl dJx4a65c_grow_92f84_4 ?_
  refine lv_istore_n (lv' := [(2, .int (nI 0)), (0, .ref h0), (1, .int (nI 1))]) hx hb dJx4a65c_grow_92f84_5 rfl hl (by decide) rfl (fun ls hl => ?_)
  refine lv_iload_n hx hb dJx4a65c_grow_92f84_6 rfl (lv_at hl 0 rfl) ?_
  refine lv_if_gt (tgt := 20) hx hb dJx4a65c_grow_92f84_7 (by decide) (fun c7 => absurd c7 (by decide)) (fun _ => ?_)
  refine lv_aload_n hx hb dJx4a65c_grow_92f84_10 rfl (lv_at hl 1 rfl) ?_
  refine va_get (D := D) (ci := 1) (v := .ref z) (C := RJx4a65c) (T := TJx4a65c) (N := 3) hx hb hts n_Jx4a65c_grow_92f84_Jx4a65c hown hK hP 0 rfl rfl 1 (by decide) (wAt hts 1 (w := .fieldLink RJx4a65c 9 "java/util/ArrayList" "elementData" "[Ljava/lang/Object;") rfl) (fun _ h9 => h9) rfl dJx4a65c_grow_92f84_11 ?_
  refine va_gets hx hb hG.2.2.2.2.1 hS hown (wAt hts 2 (w := .fieldLink RJx4a65c 39 "java/util/ArrayList" "DEFAULTCAPACITY_EMPTY_ELEMENTDATA" "[Ljava/lang/Object;") rfl) (fun _ h9 => h9) dJx4a65c_grow_92f84_14 ?_
  refine lv_acmp_eq (rx := (some z)) (ry := (some z)) (tgt := 45) hx hb dJx4a65c_grow_92f84_17 (by decide) (fun _ => ?_) (fun c17 => absurd (rfl) c17)
  refine lv_aload_n hx hb dJx4a65c_grow_92f84_45 rfl (lv_at hl 1 rfl) ?_
  refine lv_bipush (v := nI 10) hx hb dJx4a65c_grow_92f84_46 (by decide) ?_
  refine lv_iload_n hx hb dJx4a65c_grow_92f84_48 rfl (lv_at hl 2 rfl) ?_
  refine va_mmax hx hb (by rw [hml]; exact hl.1.symm) hown (wAt hts 3 (w := .methodLink RJx4a65c 79 Lib.Math.max.name) rfl) (wAt hts 4 (w := .static Lib.Math.max.name) rfl) (wAt hts 5 (w := .initialized "java/lang/Math") rfl) (wAt hts 6 (w := .code Lib.Math.max.name Lib.Math.max.code 2 (some .int)) rfl) (Nat.le_of_ble_eq_true rfl) (Nat.le_of_ble_eq_true rfl) (by omega) (by omega) dJx4a65c_grow_92f84_49 ?_
  rw [qmax (a := 10) (b := 1) (by omega) (by omega)]
  refine W.eq (g2 := F0 m 52 ls [.int (nI 10), .ref h0]) rfl ?_
  refine va_newq (N' := 10) (C := "java/lang/Object") hx hb hown (wAt hts 7 (w := .classLink RJx4a65c 7 "java/lang/Object") rfl) (hG.2.2.2.1.2.2.1 _ (List.mem_of_getElem? (i := 1) rfl)) hK hP hD hS hA (nI_pos (n := 10) (by decide)) (nI_clamp (n := 10) (by decide)) (by decide) (Nat.le_of_ble_eq_true rfl) (Nat.le_of_ble_eq_true rfl) dJx4a65c_grow_92f84_52 (fun q_1 cA H hK hP hD hS => ?_)
  obtain rfl : cA = kA 3 := tyEq hK 6 3 rfl rfl
  have hK : va_K D vwCl (tyL kA) s := hK.sub [0, 1, 2, 3, 4, 5] rfl
  have hP : va_P D vwCl [(h0, .inr (1, [.int mc, .ref z, .int (nI 0)])), (q_1, .inl (kA 3, 10, .inr (.inr (.inr (.inr (fun _ => none))))))] H := hP
  have hD : va_D A [(h0, .inr (1, [.int mc, .ref z, .int (nI 0)])), (q_1, .inl (kA 3, 10, .inr (.inr (.inr (.inr (fun _ => none))))))] := hD
  refine lv_dup_x1 hx hb dJx4a65c_grow_92f84_55 rfl rfl ?_
  refine va_put (D := D) (ci := 1) (v := .ref q_1) (ty := (tyJx4a65c 1)) (C := RJx4a65c) (T := TJx4a65c) (N := 3) hx hb hts n_Jx4a65c_grow_92f84_Jx4a65c tyJx4a65c tyJx4a65c_ok nmJx4a65c hown hK hP hD hS 0 rfl rfl 1 (by decide) (wAt hts 1 (w := .fieldLink RJx4a65c 9 "java/util/ArrayList" "elementData" "[Ljava/lang/Object;") rfl) (fun _ h9 => h9) rfl (by decide +kernel) rfl rfl (Nat.le_of_ble_eq_true rfl) dJx4a65c_grow_92f84_56 (fun H locs hP hD hS => ?_)
  have hP : va_P D vwCl [(h0, .inr (1, [.int mc, .ref q_1, .int (nI 0)])), (q_1, .inl (kA 3, 10, .inr (.inr (.inr (.inr (fun _ => none))))))] H := hP
  have hD : va_D A [(h0, .inr (1, [.int mc, .ref q_1, .int (nI 0)])), (q_1, .inl (kA 3, 10, .inr (.inr (.inr (.inr (fun _ => none))))))] := hD
  exact endR (post := fun r w => w = [(h0, .inr (1, [.int mc, .ref r, .int (nI 0)])), (r, .inl (kA 3, 10, .inr (.inr (.inr (.inr (fun _ => none))))))]) hx hb hr (Or.inr ⟨_, rfl⟩) hlocks hK hP hD hS (rfl) (Nat.le_of_ble_eq_true rfl) (Nat.le_of_ble_eq_true rfl) dJx4a65c_grow_92f84_59

def wq_Jx4a65c_grow_d5877 : List Cond := .code yJx4a65c_grow_d5877 cJx4a65c_grow_d5877 1 (some (.array (.object "java/lang/Object"))) :: (([.fieldLink RJx4a65c 48 "java/util/ArrayList" "size" "I", .methodLink RJx4a65c 69 yJx4a65c_grow_92f84, .instanceMethod yJx4a65c_grow_92f84, .selects RJx4a65c yJx4a65c_grow_92f84 yJx4a65c_grow_92f84, .initialized RJx4a65c] : List Cond) ++ (u_ws RJx4a65c TJx4a65c 3 ++ (wq_Jx4a65c_grow_92f84 ++ ([] : List Cond))))
theorem gd_Jx4a65c_grow_d5877 : wq_Jx4a65c_grow_d5877.all goodWord = true := by decide +kernel
theorem n_Jx4a65c_grow_d5877_Jx4a65c : ∀ w ∈ u_ws RJx4a65c TJx4a65c 3, w ∈ wq_Jx4a65c_grow_d5877 := fun w h => List.mem_cons_of_mem _ (List.mem_append_right _ (List.mem_append_left _ h))
theorem h_Jx4a65c_grow_d5877_0 : GoodIn wq_Jx4a65c_grow_d5877 (wsV RJx4a65c 69 RJx4a65c yJx4a65c_grow_92f84 wq_Jx4a65c_grow_92f84) := goodIn_app (goodIn_r _ [2, 3, 4, 5] (by decide +kernel) (by decide +kernel)) (goodIn_sub (fun w h => List.mem_cons_of_mem _ (List.mem_append_right _ (List.mem_append_right _ (List.mem_append_left _ h)))) gd_Jx4a65c_grow_92f84)
set_option maxHeartbeats 4000000 in
set_option maxRecDepth 100000 in
theorem c_Jx4a65c_grow_d5877 (l : Launch) (D : va_G) (kA : Nat → ClassId) (z : Nat) (h0 : Nat) (mc : Int32)  : mR l D (tyL kA) z yJx4a65c_grow_d5877 wq_Jx4a65c_grow_d5877 ({ frames := 2, cells := 1, slots := 10, locals := 60 }) [.ref h0] [(h0, .inr (1, [.int mc, .ref z, .int (nI 0)]))] (fun r w => w = [(h0, .inr (1, [.int mc, .ref r, .int (nI 0)])), (r, .inl (kA 3, 10, .inr (.inr (.inr (.inr (fun _ => none))))))]) := by
  refine ofR (cc := cJx4a65c_grow_d5877) (maxL := 1) RJx4a65c rfl (by decide +kernel) rfl (Nat.le_of_ble_eq_true rfl) ?_
  intro p e s m args below meth c A ls hE
  obtain ⟨hx, hb, hr, hml, hts, hown, hlocks, hA, hS, hP, hK, hD, hG, hl⟩ := hE
  have hl : lv_has ls 1 [(0, .ref h0)] := hl
  have hH : s.heap = s.heap := rfl
  refine lv_aload_n hx hb dJx4a65c_grow_d5877_0 rfl (lv_at hl 0 rfl) ?_
  refine lv_aload_n hx hb dJx4a65c_grow_d5877_1 rfl (lv_at hl 0 rfl) ?_
  refine va_get (D := D) (ci := 1) (v := .int (nI 0)) (C := RJx4a65c) (T := TJx4a65c) (N := 3) hx hb hts n_Jx4a65c_grow_d5877_Jx4a65c hown hK hP 0 rfl rfl 2 (by decide) (wAt hts 1 (w := .fieldLink RJx4a65c 48 "java/util/ArrayList" "size" "I") rfl) (fun _ h9 => h9) rfl dJx4a65c_grow_d5877_2 ?_
  refine lv_iconst (v := nI 1) hx hb dJx4a65c_grow_d5877_5 (by decide) ?_
  refine lv_iadd hx hb dJx4a65c_grow_d5877_6 ?_
  rw [show nI 0 + nI 1 = nI 1 from by decide]
  have hF := va_free (wc := [(h0, .inr (1, [.int mc, .ref z, .int (nI 0)]))]) hD hS hA [0] rfl
  refine va_callr (va_runV (As := [.int (nI 1)]) (rest := []) ⟨hx, hb, hml, hown, hts⟩ (c_Jx4a65c_grow_92f84 l D kA z h0 mc  _) (cwV 1 hts h_Jx4a65c_grow_d5877_0 rfl rfl rfl (by decide +kernel) ⟨Nat.le_of_ble_eq_true rfl, Nat.le_of_ble_eq_true rfl⟩) (fPv hK hP hD hS hG hF [0] (by decide) rfl 0 1 rfl rfl rfl) rfl rfl hl.1 rfl (lv_room (Nat.le_of_ble_eq_true rfl)) dJx4a65c_grow_d5877_7 ⟨Nat.le_of_ble_eq_true rfl, Nat.le_of_ble_eq_true rfl⟩) hS (fun q _ h => hF q h) hF (fun u1 ra9 t H locs ht hvm hw hB hz1 hk1 hS => ?_)
  obtain ⟨ra_1, w1⟩ := u1
  obtain ⟨e0, hB⟩ := hB
  have e0 : ra_1 = ra9 := e0
  subst e0
  obtain ⟨hP, hD⟩ := fJ (wr := []) hP hD [0] [] rfl rfl (by decide) (by decide) hk1 hF ht hB
  try dsimp only at hw
  subst hw
  have hP : va_P D vwCl [(h0, .inr (1, [.int mc, .ref ra_1, .int (nI 0)])), (ra_1, .inl (kA 3, 10, .inr (.inr (.inr (.inr (fun _ => none))))))] H := hP
  have hD : va_D A [(h0, .inr (1, [.int mc, .ref ra_1, .int (nI 0)])), (ra_1, .inl (kA 3, 10, .inr (.inr (.inr (.inr (fun _ => none))))))] := hD
  exact endR (post := fun r w => w = [(h0, .inr (1, [.int mc, .ref r, .int (nI 0)])), (r, .inl (kA 3, 10, .inr (.inr (.inr (.inr (fun _ => none))))))]) hx hb hr (Or.inr ⟨_, rfl⟩) hlocks hK hP hD hS (rfl) (Nat.le_of_ble_eq_true rfl) (Nat.le_of_ble_eq_true rfl) dJx4a65c_grow_d5877_10

def wq_Jx4a65c_add_72be8 : List Cond := .code yJx4a65c_add_72be8 cJx4a65c_add_72be8 4 none :: (([.methodLink RJx4a65c 129 yJx4a65c_grow_d5877, .instanceMethod yJx4a65c_grow_d5877, .selects RJx4a65c yJx4a65c_grow_d5877 yJx4a65c_grow_d5877, .initialized RJx4a65c, .fieldLink RJx4a65c 48 "java/util/ArrayList" "size" "I"] : List Cond) ++ (u_ws RJx4a65c TJx4a65c 3 ++ (wq_Jx4a65c_grow_d5877 ++ ([] : List Cond))))
theorem gd_Jx4a65c_add_72be8 : wq_Jx4a65c_add_72be8.all goodWord = true := by decide +kernel
theorem n_Jx4a65c_add_72be8_Jx4a65c : ∀ w ∈ u_ws RJx4a65c TJx4a65c 3, w ∈ wq_Jx4a65c_add_72be8 := fun w h => List.mem_cons_of_mem _ (List.mem_append_right _ (List.mem_append_left _ h))
theorem h_Jx4a65c_add_72be8_0 : GoodIn wq_Jx4a65c_add_72be8 (wsV RJx4a65c 129 RJx4a65c yJx4a65c_grow_d5877 wq_Jx4a65c_grow_d5877) := goodIn_app (goodIn_r _ [1, 2, 3, 4] (by decide +kernel) (by decide +kernel)) (goodIn_sub (fun w h => List.mem_cons_of_mem _ (List.mem_append_right _ (List.mem_append_right _ (List.mem_append_left _ h)))) gd_Jx4a65c_grow_d5877)
set_option maxHeartbeats 4000000 in
set_option maxRecDepth 100000 in
theorem c_Jx4a65c_add_72be8 (l : Launch) (D : va_G) (kA : Nat → ClassId) (z : Nat) (h0 : Nat) (mc : Int32) (tk f b1 w9 k1 s1 dr tu : Nat) (v1 v2 v3 v4 : Int32)  : mV l D (tyL kA) z yJx4a65c_add_72be8 wq_Jx4a65c_add_72be8 ({ frames := 3, cells := 1, slots := 10, locals := 90 }) [.ref h0, .ref tk, .ref z, .int (nI 0)] [(h0, .inr (1, [.int mc, .ref z, .int (nI 0)])), (tk, .inr (9, [.ref f, .int v1, .ref b1, .ref w9, .ref k1, .ref s1, .ref dr, .int v2, .int v3, .ref tu, .int v4]))] (fun w => ∃ (q : Nat), w = [(h0, .inr (1, [.int mc, .ref q, .int (nI 1)])), (q, .inl (kA 3, 10, .inr (.inr (.inr (.inr (va_up (fun _ => none) 0 (some tk))))))), (tk, .inr (9, [.ref f, .int v1, .ref b1, .ref w9, .ref k1, .ref s1, .ref dr, .int v2, .int v3, .ref tu, .int v4]))]) := by
  refine ofV (cc := cJx4a65c_add_72be8) (maxL := 4) RJx4a65c rfl (by decide +kernel) rfl (Nat.le_of_ble_eq_true rfl) ?_
  intro p e s m args below meth c A ls hnm hE
  obtain ⟨hx, hb, hr, hml, hts, hown, hlocks, hA, hS, hP, hK, hD, hG, hl⟩ := hE
  have hl : lv_has ls 4 [(0, .ref h0), (1, .ref tk), (2, .ref z), (3, .int (nI 0))] := hl
  have hH : s.heap = s.heap := rfl
  refine lv_iload_n hx hb dJx4a65c_add_72be8_0 rfl (lv_at hl 3 rfl) ?_
  refine lv_aload_n hx hb dJx4a65c_add_72be8_1 rfl (lv_at hl 2 rfl) ?_
  refine va_tlen (v := nI 0) hx hb hG.2.2.2.2.2.1 hS rfl dJx4a65c_add_72be8_2 ?_
  refine lv_icmp_ne (tgt := 11) hx hb dJx4a65c_add_72be8_3 (by decide) (fun c3 => absurd (by decide) c3) (fun _ => ?_)
  refine lv_aload_n hx hb dJx4a65c_add_72be8_6 rfl (lv_at hl 0 rfl) ?_
  have hF := va_free (wc := [(h0, .inr (1, [.int mc, .ref z, .int (nI 0)]))]) hD hS hA [0] rfl
  refine va_callr (va_runV (As := []) (rest := []) ⟨hx, hb, hml, hown, hts⟩ (c_Jx4a65c_grow_d5877 l D kA z h0 mc  _) (cwV 0 hts h_Jx4a65c_add_72be8_0 rfl rfl rfl (by decide +kernel) ⟨Nat.le_of_ble_eq_true rfl, Nat.le_of_ble_eq_true rfl⟩) (fPv hK hP hD hS hG hF [0] (by decide) rfl 0 1 rfl rfl rfl) rfl rfl hl.1 rfl (lv_room (Nat.le_of_ble_eq_true rfl)) dJx4a65c_add_72be8_7 ⟨Nat.le_of_ble_eq_true rfl, Nat.le_of_ble_eq_true rfl⟩) hS (fun q _ h => hF q h) hF (fun u1 ra9 t H locs ht hvm hw hB hz1 hk1 hS => ?_)
  obtain ⟨ra_1, w1⟩ := u1
  obtain ⟨e0, hB⟩ := hB
  have e0 : ra_1 = ra9 := e0
  subst e0
  obtain ⟨hP, hD⟩ := fJ (wr := [(tk, .inr (9, [.ref f, .int v1, .ref b1, .ref w9, .ref k1, .ref s1, .ref dr, .int v2, .int v3, .ref tu, .int v4]))]) hP hD [0] [1] rfl rfl (by decide) (by decide) hk1 hF ht hB
  try dsimp only at hw
  subst hw
  have hP : va_P D vwCl [(tk, .inr (9, [.ref f, .int v1, .ref b1, .ref w9, .ref k1, .ref s1, .ref dr, .int v2, .int v3, .ref tu, .int v4])), (h0, .inr (1, [.int mc, .ref ra_1, .int (nI 0)])), (ra_1, .inl (kA 3, 10, .inr (.inr (.inr (.inr (fun _ => none))))))] H := hP
  have hD : va_D A [(tk, .inr (9, [.ref f, .int v1, .ref b1, .ref w9, .ref k1, .ref s1, .ref dr, .int v2, .int v3, .ref tu, .int v4])), (h0, .inr (1, [.int mc, .ref ra_1, .int (nI 0)])), (ra_1, .inl (kA 3, 10, .inr (.inr (.inr (.inr (fun _ => none))))))] := hD
  refine lv_astore_n (lv' := [(2, .ref ra_1), (0, .ref h0), (1, .ref tk), (3, .int (nI 0))]) hx hb dJx4a65c_add_72be8_10 rfl hl (by decide) rfl (fun ls hl => ?_)
  refine lv_aload_n hx hb dJx4a65c_add_72be8_11 rfl (lv_at hl 0 rfl) ?_
  refine lv_iload_n hx hb dJx4a65c_add_72be8_12 rfl (lv_at hl 3 rfl) ?_
  refine lv_aload_n hx hb dJx4a65c_add_72be8_13 rfl (lv_at hl 2 rfl) ?_
  refine va_astqO hx hb hK hP hD hS 2 3 0 9 rfl rfl (hG.2.2.2.1.2.2.2.1 _ (List.mem_of_getElem? (i := 8) rfl)) rfl rfl (vp_in_nI (n := 0) (by omega) (by decide)) dJx4a65c_add_72be8_14 (fun H locs hP hD hS => ?_)
  rw [nI_clamp (n := 0) (by omega)] at hP hD
  have hP : va_P D vwCl [(tk, .inr (9, [.ref f, .int v1, .ref b1, .ref w9, .ref k1, .ref s1, .ref dr, .int v2, .int v3, .ref tu, .int v4])), (h0, .inr (1, [.int mc, .ref ra_1, .int (nI 0)])), (ra_1, .inl (kA 3, 10, .inr (.inr (.inr (.inr (va_up (fun _ => none) 0 (some tk)))))))] H := hP
  have hD : va_D A [(tk, .inr (9, [.ref f, .int v1, .ref b1, .ref w9, .ref k1, .ref s1, .ref dr, .int v2, .int v3, .ref tu, .int v4])), (h0, .inr (1, [.int mc, .ref ra_1, .int (nI 0)])), (ra_1, .inl (kA 3, 10, .inr (.inr (.inr (.inr (va_up (fun _ => none) 0 (some tk)))))))] := hD
  refine lv_aload_n hx hb dJx4a65c_add_72be8_15 rfl (lv_at hl 1 rfl) ?_
  refine lv_iload_n hx hb dJx4a65c_add_72be8_16 rfl (lv_at hl 3 rfl) ?_
  refine lv_iconst (v := nI 1) hx hb dJx4a65c_add_72be8_17 (by decide) ?_
  refine lv_iadd hx hb dJx4a65c_add_72be8_18 ?_
  rw [show nI 0 + nI 1 = nI 1 from by decide]
  refine va_put (D := D) (ci := 1) (v := .int (nI 1)) (ty := .int) (C := RJx4a65c) (T := TJx4a65c) (N := 3) hx hb hts n_Jx4a65c_add_72be8_Jx4a65c tyJx4a65c tyJx4a65c_ok nmJx4a65c hown hK hP hD hS 1 rfl rfl 2 (by decide) (wAt hts 5 (w := .fieldLink RJx4a65c 48 "java/util/ArrayList" "size" "I") rfl) (fun _ h9 => h9) rfl (by decide +kernel) rfl rfl (Nat.le_of_ble_eq_true rfl) dJx4a65c_add_72be8_19 (fun H locs hP hD hS => ?_)
  have hP : va_P D vwCl [(tk, .inr (9, [.ref f, .int v1, .ref b1, .ref w9, .ref k1, .ref s1, .ref dr, .int v2, .int v3, .ref tu, .int v4])), (h0, .inr (1, [.int mc, .ref ra_1, .int (nI 1)])), (ra_1, .inl (kA 3, 10, .inr (.inr (.inr (.inr (va_up (fun _ => none) 0 (some tk)))))))] H := hP
  have hD : va_D A [(tk, .inr (9, [.ref f, .int v1, .ref b1, .ref w9, .ref k1, .ref s1, .ref dr, .int v2, .int v3, .ref tu, .int v4])), (h0, .inr (1, [.int mc, .ref ra_1, .int (nI 1)])), (ra_1, .inl (kA 3, 10, .inr (.inr (.inr (.inr (va_up (fun _ => none) 0 (some tk)))))))] := hD
  have hP := hP.sub (ws' := [(h0, .inr (1, [.int mc, .ref ra_1, .int (nI 1)])), (ra_1, .inl (kA 3, 10, .inr (.inr (.inr (.inr (va_up (fun _ => none) 0 (some tk))))))), (tk, .inr (9, [.ref f, .int v1, .ref b1, .ref w9, .ref k1, .ref s1, .ref dr, .int v2, .int v3, .ref tu, .int v4]))]) [1, 2, 0] rfl
  have hD := hD.sub (ws' := [(h0, .inr (1, [.int mc, .ref ra_1, .int (nI 1)])), (ra_1, .inl (kA 3, 10, .inr (.inr (.inr (.inr (va_up (fun _ => none) 0 (some tk))))))), (tk, .inr (9, [.ref f, .int v1, .ref b1, .ref w9, .ref k1, .ref s1, .ref dr, .int v2, .int v3, .ref tu, .int v4]))]) [1, 2, 0] (by decide) rfl
  exact endV hx hb hr hlocks hK hP hD hS (⟨ra_1, rfl⟩) (Nat.le_of_ble_eq_true rfl) (Nat.le_of_ble_eq_true rfl) dJx4a65c_add_72be8_22

def wq_Jx4a65c_add_9ea2d : List Cond := .code yJx4a65c_add_9ea2d cJx4a65c_add_9ea2d 2 (some .boolean) :: (([.fieldLink RJx4a65c 63 "java/util/ArrayList" "modCount" "I", .sameField "java/util/ArrayList" "java/util/AbstractList" "modCount" "I", .fieldLink RJx4a65c 9 "java/util/ArrayList" "elementData" "[Ljava/lang/Object;", .fieldLink RJx4a65c 48 "java/util/ArrayList" "size" "I", .methodLink RJx4a65c 131 yJx4a65c_add_72be8, .instanceMethod yJx4a65c_add_72be8, .selects RJx4a65c yJx4a65c_add_72be8 yJx4a65c_add_72be8, .initialized RJx4a65c] : List Cond) ++ (u_ws RJx4a65c TJx4a65c 3 ++ (wq_Jx4a65c_add_72be8 ++ ([] : List Cond))))
theorem gd_Jx4a65c_add_9ea2d : wq_Jx4a65c_add_9ea2d.all goodWord = true := by decide +kernel
theorem n_Jx4a65c_add_9ea2d_Jx4a65c : ∀ w ∈ u_ws RJx4a65c TJx4a65c 3, w ∈ wq_Jx4a65c_add_9ea2d := fun w h => List.mem_cons_of_mem _ (List.mem_append_right _ (List.mem_append_left _ h))
theorem h_Jx4a65c_add_9ea2d_0 : GoodIn wq_Jx4a65c_add_9ea2d (wsV RJx4a65c 131 RJx4a65c yJx4a65c_add_72be8 wq_Jx4a65c_add_72be8) := goodIn_app (goodIn_r _ [5, 6, 7, 8] (by decide +kernel) (by decide +kernel)) (goodIn_sub (fun w h => List.mem_cons_of_mem _ (List.mem_append_right _ (List.mem_append_right _ (List.mem_append_left _ h)))) gd_Jx4a65c_add_72be8)
set_option maxHeartbeats 4000000 in
set_option maxRecDepth 100000 in
theorem c_Jx4a65c_add_9ea2d (l : Launch) (D : va_G) (kA : Nat → ClassId) (z : Nat) (h0 : Nat) (tk f b1 w9 k1 s1 dr tu : Nat) (v1 v2 v3 v4 : Int32)  : mI l D (tyL kA) z yJx4a65c_add_9ea2d wq_Jx4a65c_add_9ea2d ({ frames := 4, cells := 1, slots := 10, locals := 120 }) [.ref h0, .ref tk] [(h0, .inr (1, [.int (nI 0), .ref z, .int (nI 0)])), (tk, .inr (9, [.ref f, .int v1, .ref b1, .ref w9, .ref k1, .ref s1, .ref dr, .int v2, .int v3, .ref tu, .int v4]))] (fun r w => ∃ (q : Nat), w = [(h0, .inr (1, [.int (nI 1), .ref q, .int (nI 1)])), (q, .inl (kA 3, 10, .inr (.inr (.inr (.inr (va_up (fun _ => none) 0 (some tk))))))), (tk, .inr (9, [.ref f, .int v1, .ref b1, .ref w9, .ref k1, .ref s1, .ref dr, .int v2, .int v3, .ref tu, .int v4]))]) := by
  refine ofI (cc := cJx4a65c_add_9ea2d) (maxL := 2) RJx4a65c rfl (by decide +kernel) rfl (Nat.le_of_ble_eq_true rfl) ?_
  intro p e s m args below meth c A ls hE
  obtain ⟨hx, hb, hr, hml, hts, hown, hlocks, hA, hS, hP, hK, hD, hG, hl⟩ := hE
  have hl : lv_has ls 2 [(0, .ref h0), (1, .ref tk)] := hl
  have hH : s.heap = s.heap := rfl
  refine lv_aload_n hx hb dJx4a65c_add_9ea2d_0 rfl (lv_at hl 0 rfl) ?_
  refine lv_dup hx hb dJx4a65c_add_9ea2d_1 rfl ?_
  refine va_get (D := D) (ci := 1) (v := .int (nI 0)) (C := RJx4a65c) (T := TJx4a65c) (N := 3) hx hb hts n_Jx4a65c_add_9ea2d_Jx4a65c hown hK hP 0 rfl rfl 0 (by decide) (wAt hts 1 (w := .fieldLink RJx4a65c 63 "java/util/ArrayList" "modCount" "I") rfl) (fun x9 h9 => u_same (wAt hts 2 (w := .sameField "java/util/ArrayList" "java/util/AbstractList" "modCount" "I") rfl) x9 h9) rfl dJx4a65c_add_9ea2d_2 ?_
  refine lv_iconst (v := nI 1) hx hb dJx4a65c_add_9ea2d_5 (by decide) ?_
  refine lv_iadd hx hb dJx4a65c_add_9ea2d_6 ?_
  rw [show nI 0 + nI 1 = nI 1 from by decide]
  refine va_put (D := D) (ci := 1) (v := .int (nI 1)) (ty := .int) (C := RJx4a65c) (T := TJx4a65c) (N := 3) hx hb hts n_Jx4a65c_add_9ea2d_Jx4a65c tyJx4a65c tyJx4a65c_ok nmJx4a65c hown hK hP hD hS 0 rfl rfl 0 (by decide) (wAt hts 1 (w := .fieldLink RJx4a65c 63 "java/util/ArrayList" "modCount" "I") rfl) (fun x9 h9 => u_same (wAt hts 2 (w := .sameField "java/util/ArrayList" "java/util/AbstractList" "modCount" "I") rfl) x9 h9) rfl (by decide +kernel) rfl rfl (Nat.le_of_ble_eq_true rfl) dJx4a65c_add_9ea2d_7 (fun H locs hP hD hS => ?_)
  have hP : va_P D vwCl [(h0, .inr (1, [.int (nI 1), .ref z, .int (nI 0)])), (tk, .inr (9, [.ref f, .int v1, .ref b1, .ref w9, .ref k1, .ref s1, .ref dr, .int v2, .int v3, .ref tu, .int v4]))] H := hP
  have hD : va_D A [(h0, .inr (1, [.int (nI 1), .ref z, .int (nI 0)])), (tk, .inr (9, [.ref f, .int v1, .ref b1, .ref w9, .ref k1, .ref s1, .ref dr, .int v2, .int v3, .ref tu, .int v4]))] := hD
  refine lv_aload_n hx hb dJx4a65c_add_9ea2d_10 rfl (lv_at hl 0 rfl) ?_
  refine lv_aload_n hx hb dJx4a65c_add_9ea2d_11 rfl (lv_at hl 1 rfl) ?_
  refine lv_aload_n hx hb dJx4a65c_add_9ea2d_12 rfl (lv_at hl 0 rfl) ?_
  refine va_get (D := D) (ci := 1) (v := .ref z) (C := RJx4a65c) (T := TJx4a65c) (N := 3) hx hb hts n_Jx4a65c_add_9ea2d_Jx4a65c hown hK hP 0 rfl rfl 1 (by decide) (wAt hts 3 (w := .fieldLink RJx4a65c 9 "java/util/ArrayList" "elementData" "[Ljava/lang/Object;") rfl) (fun _ h9 => h9) rfl dJx4a65c_add_9ea2d_13 ?_
  refine lv_aload_n hx hb dJx4a65c_add_9ea2d_16 rfl (lv_at hl 0 rfl) ?_
  refine va_get (D := D) (ci := 1) (v := .int (nI 0)) (C := RJx4a65c) (T := TJx4a65c) (N := 3) hx hb hts n_Jx4a65c_add_9ea2d_Jx4a65c hown hK hP 0 rfl rfl 2 (by decide) (wAt hts 4 (w := .fieldLink RJx4a65c 48 "java/util/ArrayList" "size" "I") rfl) (fun _ h9 => h9) rfl dJx4a65c_add_9ea2d_17 ?_
  have hF := va_free (wc := [(h0, .inr (1, [.int (nI 1), .ref z, .int (nI 0)])), (tk, .inr (9, [.ref f, .int v1, .ref b1, .ref w9, .ref k1, .ref s1, .ref dr, .int v2, .int v3, .ref tu, .int v4]))]) hD hS hA [0, 1] rfl
  refine va_callv (va_runV (As := [.ref tk, .ref z, .int (nI 0)]) (rest := []) ⟨hx, hb, hml, hown, hts⟩ (c_Jx4a65c_add_72be8 l D kA z h0 (nI 1) tk f b1 w9 k1 s1 dr tu v1 v2 v3 v4  _) (cwV 3 hts h_Jx4a65c_add_9ea2d_0 rfl rfl rfl (by decide +kernel) ⟨Nat.le_of_ble_eq_true rfl, Nat.le_of_ble_eq_true rfl⟩) (fPv hK hP hD hS hG hF [0, 1] (by decide) rfl 0 1 rfl rfl rfl) rfl rfl hl.1 rfl (lv_room (Nat.le_of_ble_eq_true rfl)) dJx4a65c_add_9ea2d_20 ⟨Nat.le_of_ble_eq_true rfl, Nat.le_of_ble_eq_true rfl⟩) hS (fun q _ h => hF q h) hF (fun w1 t H locs ht hvm hw hB hz1 hk1 hS => ?_)
  obtain ⟨hP, hD⟩ := fJ (wr := []) hP hD [0, 1] [] rfl rfl (by decide) (by decide) hk1 hF ht hB
  try dsimp only at hw
  obtain ⟨q_1, rfl⟩ := hw
  have hP : va_P D vwCl [(h0, .inr (1, [.int (nI 1), .ref q_1, .int (nI 1)])), (q_1, .inl (kA 3, 10, .inr (.inr (.inr (.inr (va_up (fun _ => none) 0 (some tk))))))), (tk, .inr (9, [.ref f, .int v1, .ref b1, .ref w9, .ref k1, .ref s1, .ref dr, .int v2, .int v3, .ref tu, .int v4]))] H := hP
  have hD : va_D A [(h0, .inr (1, [.int (nI 1), .ref q_1, .int (nI 1)])), (q_1, .inl (kA 3, 10, .inr (.inr (.inr (.inr (va_up (fun _ => none) 0 (some tk))))))), (tk, .inr (9, [.ref f, .int v1, .ref b1, .ref w9, .ref k1, .ref s1, .ref dr, .int v2, .int v3, .ref tu, .int v4]))] := hD
  refine lv_iconst (v := nI 1) hx hb dJx4a65c_add_9ea2d_23 (by decide) ?_
  exact endZ hx hb hr hlocks (rfl) hK hP hD hS (⟨q_1, rfl⟩) (Nat.le_of_ble_eq_true rfl) (Nat.le_of_ble_eq_true rfl) dJx4a65c_add_9ea2d_24

def wq_X8_init : List Cond := .code yX8_init cX8_init 2 none :: (([.methodLink RX8 3 objectInit, .instanceMethod objectInit, .code objectInit ⟨#[0xb1]⟩ 1 none, .arrayClass .int, .fieldLink RX8 9 "FluxBenchModel$Track" "fives" "[I", .fieldLink RX8 15 "FluxBenchModel$Track" "bits" "[I", .fieldLink RX8 18 "FluxBenchModel$Track" "widths" "[I", .arrayClass .boolean, .fieldLink RX8 21 "FluxBenchModel$Track" "weak" "[Z", .fieldLink RX8 25 "FluxBenchModel$Track" "states" "[I", .fieldLink RX8 28 "FluxBenchModel$Track" "dirtyReads" "[I", .classLink RX8 31 RJx4a65c, .instantiable RJx4a65c 3, .initialized RJx4a65c, .methodLink RX8 33 yJx4a65c_init_da8c8, .instanceMethod yJx4a65c_init_da8c8, .fieldLink RX8 34 "FluxBenchModel$Track" "turns" "Ljava/util/ArrayList;", .fieldLink RX8 38 "FluxBenchModel$Track" "code" "I"] : List Cond) ++ (u_ws RX8 TX8 11 ++ (u_ws RJx4a65c TJx4a65c 3 ++ (wq_Jx4a65c_init_da8c8 ++ ([] : List Cond)))))
theorem gd_X8_init : wq_X8_init.all goodWord = true := by decide +kernel
theorem n_X8_init_X8 : ∀ w ∈ u_ws RX8 TX8 11, w ∈ wq_X8_init := fun w h => List.mem_cons_of_mem _ (List.mem_append_right _ (List.mem_append_left _ h))
theorem n_X8_init_Jx4a65c : ∀ w ∈ u_ws RJx4a65c TJx4a65c 3, w ∈ wq_X8_init := fun w h => List.mem_cons_of_mem _ (List.mem_append_right _ (List.mem_append_right _ (List.mem_append_left _ h)))
theorem h_X8_init_0 : GoodIn wq_X8_init (wq_Jx4a65c_init_da8c8) := goodIn_sub (fun w h => List.mem_cons_of_mem _ (List.mem_append_right _ (List.mem_append_right _ (List.mem_append_right _ (List.mem_append_left _ h))))) gd_Jx4a65c_init_da8c8
set_option maxHeartbeats 4000000 in
set_option maxRecDepth 100000 in
theorem c_X8_init (l : Launch) (D : va_G) (kA : Nat → ClassId) (z : Nat) (h0 n : Nat)  : mV l D (tyL kA) z yX8_init wq_X8_init ({ frames := 4, cells := 7, slots := 2019, locals := 72 }) [.ref h0, .int (nI n)] [(h0, .inr (9, [.null, .int 0, .null, .null, .null, .null, .null, .int 0, .int 0, .null, .int 0]))] (fun w => ∃ (f b1 w9 k1 s1 dr tu : Nat) (f0 : Nat → Int32), w = [(h0, .inr (9, [.ref f, .int (nI n), .ref b1, .ref w9, .ref k1, .ref s1, .ref dr, .int (nI 0), .int (nI 0), .ref tu, .int (nI 0)])), (f, .inl (kA 0, 16, .inl f0)), (b1, .inl (kA 0, 400, .inl (fun _ => 0))), (w9, .inl (kA 0, 400, .inl (fun _ => 0))), (k1, .inl (kA 1, 400, .inl (fun _ => 0))), (s1, .inl (kA 0, 400, .inl (fun _ => 0))), (dr, .inl (kA 0, 400, .inl (fun _ => 0))), (tu, .inr (1, [.int (nI 0), .ref z, .int (nI 0)]))]) := by
  refine ofV (cc := cX8_init) (maxL := 2) RX8 rfl (by decide +kernel) rfl (Nat.le_of_ble_eq_true rfl) ?_
  intro p e s m args below meth c A ls hnm hE
  obtain ⟨hx, hb, hr, hml, hts, hown, hlocks, hA, hS, hP, hK, hD, hG, hl⟩ := hE
  have hl : lv_has ls 2 [(0, .ref h0), (1, .int (nI n))] := hl
  have hH : s.heap = s.heap := rfl
  refine lv_aload_n hx hb dX8_init_0 rfl (lv_at hl 0 rfl) ?_
  refine W.objInit hx hb hown (wAt hts 1 (w := .methodLink RX8 3 objectInit) rfl) (wAt hts 2 (w := .instanceMethod objectInit) rfl) (wAt hts 3 (w := .code objectInit ⟨#[0xb1]⟩ 1 none) rfl) rfl (by rw [hml]; exact hl.1) rfl dX8_init_1 (Nat.le_of_ble_eq_true rfl) (Nat.le_of_ble_eq_true rfl) ?_
  refine W.eq (g2 := F0 m 4 ls []) rfl ?_
  refine lv_aload_n hx hb dX8_init_4 rfl (lv_at hl 0 rfl) ?_
  refine lv_bipush (v := nI 16) hx hb dX8_init_5 (by decide) ?_
  refine va_newa (atype := .int) (ty := .int) (N' := 16) (a0 := (16, .inl (fun _ => 0))) hx hb (wAt hts 4 (w := .arrayClass .int) rfl) rfl hK hP hD hS hA (fun _ => rfl) (nI_pos (n := 16) (by decide)) (nI_clamp (n := 16) (by decide)) (by decide) (Nat.le_of_ble_eq_true rfl) (Nat.le_of_ble_eq_true rfl) dX8_init_7 (fun q_1 cA H hK hP hD hS => ?_)
  obtain rfl : cA = kA 0 := tyEq hK 6 0 rfl rfl
  have hK : va_K D vwCl (tyL kA) s := hK.sub [0, 1, 2, 3, 4, 5] rfl
  have hP : va_P D vwCl [(h0, .inr (9, [.null, .int 0, .null, .null, .null, .null, .null, .int 0, .int 0, .null, .int 0])), (q_1, .inl (kA 0, 16, .inl (fun _ => 0)))] H := hP
  have hD : va_D A [(h0, .inr (9, [.null, .int 0, .null, .null, .null, .null, .null, .int 0, .int 0, .null, .int 0])), (q_1, .inl (kA 0, 16, .inl (fun _ => 0)))] := hD
  refine lv_dup hx hb dX8_init_9 rfl ?_
  refine lv_iconst (v := nI 0) hx hb dX8_init_10 (by decide) ?_
  refine lv_bipush (v := nI 10) hx hb dX8_init_11 (by decide) ?_
  refine va_iast hx hb hK hP hD hS 1 0 rfl rfl (vp_in_nI (n := 0) (by omega) (by decide)) dX8_init_13 (fun H locs hP hD hS => ?_)
  rw [nI_clamp (n := 0) (by omega)] at hP hD
  have hP : va_P D vwCl [(h0, .inr (9, [.null, .int 0, .null, .null, .null, .null, .null, .int 0, .int 0, .null, .int 0])), (q_1, .inl (kA 0, 16, .inl (upd (fun _ => 0) 0 (nI 10))))] H := hP
  have hD : va_D A [(h0, .inr (9, [.null, .int 0, .null, .null, .null, .null, .null, .int 0, .int 0, .null, .int 0])), (q_1, .inl (kA 0, 16, .inl (upd (fun _ => 0) 0 (nI 10))))] := hD
  refine lv_dup hx hb dX8_init_14 rfl ?_
  refine lv_iconst (v := nI 1) hx hb dX8_init_15 (by decide) ?_
  refine lv_bipush (v := nI 11) hx hb dX8_init_16 (by decide) ?_
  refine va_iast hx hb hK hP hD hS 1 0 rfl rfl (vp_in_nI (n := 1) (by omega) (by decide)) dX8_init_18 (fun H locs hP hD hS => ?_)
  rw [nI_clamp (n := 1) (by omega)] at hP hD
  have hP : va_P D vwCl [(h0, .inr (9, [.null, .int 0, .null, .null, .null, .null, .null, .int 0, .int 0, .null, .int 0])), (q_1, .inl (kA 0, 16, .inl (upd (upd (fun _ => 0) 0 (nI 10)) 1 (nI 11))))] H := hP
  have hD : va_D A [(h0, .inr (9, [.null, .int 0, .null, .null, .null, .null, .null, .int 0, .int 0, .null, .int 0])), (q_1, .inl (kA 0, 16, .inl (upd (upd (fun _ => 0) 0 (nI 10)) 1 (nI 11))))] := hD
  refine lv_dup hx hb dX8_init_19 rfl ?_
  refine lv_iconst (v := nI 2) hx hb dX8_init_20 (by decide) ?_
  refine lv_bipush (v := nI 18) hx hb dX8_init_21 (by decide) ?_
  refine va_iast hx hb hK hP hD hS 1 0 rfl rfl (vp_in_nI (n := 2) (by omega) (by decide)) dX8_init_23 (fun H locs hP hD hS => ?_)
  rw [nI_clamp (n := 2) (by omega)] at hP hD
  have hP : va_P D vwCl [(h0, .inr (9, [.null, .int 0, .null, .null, .null, .null, .null, .int 0, .int 0, .null, .int 0])), (q_1, .inl (kA 0, 16, .inl (upd (upd (upd (fun _ => 0) 0 (nI 10)) 1 (nI 11)) 2 (nI 18))))] H := hP
  have hD : va_D A [(h0, .inr (9, [.null, .int 0, .null, .null, .null, .null, .null, .int 0, .int 0, .null, .int 0])), (q_1, .inl (kA 0, 16, .inl (upd (upd (upd (fun _ => 0) 0 (nI 10)) 1 (nI 11)) 2 (nI 18))))] := hD
  refine lv_dup hx hb dX8_init_24 rfl ?_
  refine lv_iconst (v := nI 3) hx hb dX8_init_25 (by decide) ?_
  refine lv_bipush (v := nI 19) hx hb dX8_init_26 (by decide) ?_
  refine va_iast hx hb hK hP hD hS 1 0 rfl rfl (vp_in_nI (n := 3) (by omega) (by decide)) dX8_init_28 (fun H locs hP hD hS => ?_)
  rw [nI_clamp (n := 3) (by omega)] at hP hD
  have hP : va_P D vwCl [(h0, .inr (9, [.null, .int 0, .null, .null, .null, .null, .null, .int 0, .int 0, .null, .int 0])), (q_1, .inl (kA 0, 16, .inl (upd (upd (upd (upd (fun _ => 0) 0 (nI 10)) 1 (nI 11)) 2 (nI 18)) 3 (nI 19))))] H := hP
  have hD : va_D A [(h0, .inr (9, [.null, .int 0, .null, .null, .null, .null, .null, .int 0, .int 0, .null, .int 0])), (q_1, .inl (kA 0, 16, .inl (upd (upd (upd (upd (fun _ => 0) 0 (nI 10)) 1 (nI 11)) 2 (nI 18)) 3 (nI 19))))] := hD
  refine lv_dup hx hb dX8_init_29 rfl ?_
  refine lv_iconst (v := nI 4) hx hb dX8_init_30 (by decide) ?_
  refine lv_bipush (v := nI 14) hx hb dX8_init_31 (by decide) ?_
  refine va_iast hx hb hK hP hD hS 1 0 rfl rfl (vp_in_nI (n := 4) (by omega) (by decide)) dX8_init_33 (fun H locs hP hD hS => ?_)
  rw [nI_clamp (n := 4) (by omega)] at hP hD
  have hP : va_P D vwCl [(h0, .inr (9, [.null, .int 0, .null, .null, .null, .null, .null, .int 0, .int 0, .null, .int 0])), (q_1, .inl (kA 0, 16, .inl (upd (upd (upd (upd (upd (fun _ => 0) 0 (nI 10)) 1 (nI 11)) 2 (nI 18)) 3 (nI 19)) 4 (nI 14))))] H := hP
  have hD : va_D A [(h0, .inr (9, [.null, .int 0, .null, .null, .null, .null, .null, .int 0, .int 0, .null, .int 0])), (q_1, .inl (kA 0, 16, .inl (upd (upd (upd (upd (upd (fun _ => 0) 0 (nI 10)) 1 (nI 11)) 2 (nI 18)) 3 (nI 19)) 4 (nI 14))))] := hD
  refine lv_dup hx hb dX8_init_34 rfl ?_
  refine lv_iconst (v := nI 5) hx hb dX8_init_35 (by decide) ?_
  refine lv_bipush (v := nI 15) hx hb dX8_init_36 (by decide) ?_
  refine va_iast hx hb hK hP hD hS 1 0 rfl rfl (vp_in_nI (n := 5) (by omega) (by decide)) dX8_init_38 (fun H locs hP hD hS => ?_)
  rw [nI_clamp (n := 5) (by omega)] at hP hD
  have hP : va_P D vwCl [(h0, .inr (9, [.null, .int 0, .null, .null, .null, .null, .null, .int 0, .int 0, .null, .int 0])), (q_1, .inl (kA 0, 16, .inl (upd (upd (upd (upd (upd (upd (fun _ => 0) 0 (nI 10)) 1 (nI 11)) 2 (nI 18)) 3 (nI 19)) 4 (nI 14)) 5 (nI 15))))] H := hP
  have hD : va_D A [(h0, .inr (9, [.null, .int 0, .null, .null, .null, .null, .null, .int 0, .int 0, .null, .int 0])), (q_1, .inl (kA 0, 16, .inl (upd (upd (upd (upd (upd (upd (fun _ => 0) 0 (nI 10)) 1 (nI 11)) 2 (nI 18)) 3 (nI 19)) 4 (nI 14)) 5 (nI 15))))] := hD
  refine lv_dup hx hb dX8_init_39 rfl ?_
  refine lv_bipush (v := nI 6) hx hb dX8_init_40 (by decide) ?_
  refine lv_bipush (v := nI 22) hx hb dX8_init_42 (by decide) ?_
  refine va_iast hx hb hK hP hD hS 1 0 rfl rfl (vp_in_nI (n := 6) (by omega) (by decide)) dX8_init_44 (fun H locs hP hD hS => ?_)
  rw [nI_clamp (n := 6) (by omega)] at hP hD
  have hP : va_P D vwCl [(h0, .inr (9, [.null, .int 0, .null, .null, .null, .null, .null, .int 0, .int 0, .null, .int 0])), (q_1, .inl (kA 0, 16, .inl (upd (upd (upd (upd (upd (upd (upd (fun _ => 0) 0 (nI 10)) 1 (nI 11)) 2 (nI 18)) 3 (nI 19)) 4 (nI 14)) 5 (nI 15)) 6 (nI 22))))] H := hP
  have hD : va_D A [(h0, .inr (9, [.null, .int 0, .null, .null, .null, .null, .null, .int 0, .int 0, .null, .int 0])), (q_1, .inl (kA 0, 16, .inl (upd (upd (upd (upd (upd (upd (upd (fun _ => 0) 0 (nI 10)) 1 (nI 11)) 2 (nI 18)) 3 (nI 19)) 4 (nI 14)) 5 (nI 15)) 6 (nI 22))))] := hD
  refine lv_dup hx hb dX8_init_45 rfl ?_
  refine lv_bipush (v := nI 7) hx hb dX8_init_46 (by decide) ?_
  refine lv_bipush (v := nI 23) hx hb dX8_init_48 (by decide) ?_
  refine va_iast hx hb hK hP hD hS 1 0 rfl rfl (vp_in_nI (n := 7) (by omega) (by decide)) dX8_init_50 (fun H locs hP hD hS => ?_)
  rw [nI_clamp (n := 7) (by omega)] at hP hD
  have hP : va_P D vwCl [(h0, .inr (9, [.null, .int 0, .null, .null, .null, .null, .null, .int 0, .int 0, .null, .int 0])), (q_1, .inl (kA 0, 16, .inl (upd (upd (upd (upd (upd (upd (upd (upd (fun _ => 0) 0 (nI 10)) 1 (nI 11)) 2 (nI 18)) 3 (nI 19)) 4 (nI 14)) 5 (nI 15)) 6 (nI 22)) 7 (nI 23))))] H := hP
  have hD : va_D A [(h0, .inr (9, [.null, .int 0, .null, .null, .null, .null, .null, .int 0, .int 0, .null, .int 0])), (q_1, .inl (kA 0, 16, .inl (upd (upd (upd (upd (upd (upd (upd (upd (fun _ => 0) 0 (nI 10)) 1 (nI 11)) 2 (nI 18)) 3 (nI 19)) 4 (nI 14)) 5 (nI 15)) 6 (nI 22)) 7 (nI 23))))] := hD
  refine lv_dup hx hb dX8_init_51 rfl ?_
  refine lv_bipush (v := nI 8) hx hb dX8_init_52 (by decide) ?_
  refine lv_bipush (v := nI 9) hx hb dX8_init_54 (by decide) ?_
  refine va_iast hx hb hK hP hD hS 1 0 rfl rfl (vp_in_nI (n := 8) (by omega) (by decide)) dX8_init_56 (fun H locs hP hD hS => ?_)
  rw [nI_clamp (n := 8) (by omega)] at hP hD
  have hP : va_P D vwCl [(h0, .inr (9, [.null, .int 0, .null, .null, .null, .null, .null, .int 0, .int 0, .null, .int 0])), (q_1, .inl (kA 0, 16, .inl (upd (upd (upd (upd (upd (upd (upd (upd (upd (fun _ => 0) 0 (nI 10)) 1 (nI 11)) 2 (nI 18)) 3 (nI 19)) 4 (nI 14)) 5 (nI 15)) 6 (nI 22)) 7 (nI 23)) 8 (nI 9))))] H := hP
  have hD : va_D A [(h0, .inr (9, [.null, .int 0, .null, .null, .null, .null, .null, .int 0, .int 0, .null, .int 0])), (q_1, .inl (kA 0, 16, .inl (upd (upd (upd (upd (upd (upd (upd (upd (upd (fun _ => 0) 0 (nI 10)) 1 (nI 11)) 2 (nI 18)) 3 (nI 19)) 4 (nI 14)) 5 (nI 15)) 6 (nI 22)) 7 (nI 23)) 8 (nI 9))))] := hD
  refine lv_dup hx hb dX8_init_57 rfl ?_
  refine lv_bipush (v := nI 9) hx hb dX8_init_58 (by decide) ?_
  refine lv_bipush (v := nI 25) hx hb dX8_init_60 (by decide) ?_
  refine va_iast hx hb hK hP hD hS 1 0 rfl rfl (vp_in_nI (n := 9) (by omega) (by decide)) dX8_init_62 (fun H locs hP hD hS => ?_)
  rw [nI_clamp (n := 9) (by omega)] at hP hD
  have hP : va_P D vwCl [(h0, .inr (9, [.null, .int 0, .null, .null, .null, .null, .null, .int 0, .int 0, .null, .int 0])), (q_1, .inl (kA 0, 16, .inl (upd (upd (upd (upd (upd (upd (upd (upd (upd (upd (fun _ => 0) 0 (nI 10)) 1 (nI 11)) 2 (nI 18)) 3 (nI 19)) 4 (nI 14)) 5 (nI 15)) 6 (nI 22)) 7 (nI 23)) 8 (nI 9)) 9 (nI 25))))] H := hP
  have hD : va_D A [(h0, .inr (9, [.null, .int 0, .null, .null, .null, .null, .null, .int 0, .int 0, .null, .int 0])), (q_1, .inl (kA 0, 16, .inl (upd (upd (upd (upd (upd (upd (upd (upd (upd (upd (fun _ => 0) 0 (nI 10)) 1 (nI 11)) 2 (nI 18)) 3 (nI 19)) 4 (nI 14)) 5 (nI 15)) 6 (nI 22)) 7 (nI 23)) 8 (nI 9)) 9 (nI 25))))] := hD
  refine lv_dup hx hb dX8_init_63 rfl ?_
  refine lv_bipush (v := nI 10) hx hb dX8_init_64 (by decide) ?_
  refine lv_bipush (v := nI 26) hx hb dX8_init_66 (by decide) ?_
  refine va_iast hx hb hK hP hD hS 1 0 rfl rfl (vp_in_nI (n := 10) (by omega) (by decide)) dX8_init_68 (fun H locs hP hD hS => ?_)
  rw [nI_clamp (n := 10) (by omega)] at hP hD
  have hP : va_P D vwCl [(h0, .inr (9, [.null, .int 0, .null, .null, .null, .null, .null, .int 0, .int 0, .null, .int 0])), (q_1, .inl (kA 0, 16, .inl (upd (upd (upd (upd (upd (upd (upd (upd (upd (upd (upd (fun _ => 0) 0 (nI 10)) 1 (nI 11)) 2 (nI 18)) 3 (nI 19)) 4 (nI 14)) 5 (nI 15)) 6 (nI 22)) 7 (nI 23)) 8 (nI 9)) 9 (nI 25)) 10 (nI 26))))] H := hP
  have hD : va_D A [(h0, .inr (9, [.null, .int 0, .null, .null, .null, .null, .null, .int 0, .int 0, .null, .int 0])), (q_1, .inl (kA 0, 16, .inl (upd (upd (upd (upd (upd (upd (upd (upd (upd (upd (upd (fun _ => 0) 0 (nI 10)) 1 (nI 11)) 2 (nI 18)) 3 (nI 19)) 4 (nI 14)) 5 (nI 15)) 6 (nI 22)) 7 (nI 23)) 8 (nI 9)) 9 (nI 25)) 10 (nI 26))))] := hD
  refine lv_dup hx hb dX8_init_69 rfl ?_
  refine lv_bipush (v := nI 11) hx hb dX8_init_70 (by decide) ?_
  refine lv_bipush (v := nI 27) hx hb dX8_init_72 (by decide) ?_
  refine va_iast hx hb hK hP hD hS 1 0 rfl rfl (vp_in_nI (n := 11) (by omega) (by decide)) dX8_init_74 (fun H locs hP hD hS => ?_)
  rw [nI_clamp (n := 11) (by omega)] at hP hD
  have hP : va_P D vwCl [(h0, .inr (9, [.null, .int 0, .null, .null, .null, .null, .null, .int 0, .int 0, .null, .int 0])), (q_1, .inl (kA 0, 16, .inl (upd (upd (upd (upd (upd (upd (upd (upd (upd (upd (upd (upd (fun _ => 0) 0 (nI 10)) 1 (nI 11)) 2 (nI 18)) 3 (nI 19)) 4 (nI 14)) 5 (nI 15)) 6 (nI 22)) 7 (nI 23)) 8 (nI 9)) 9 (nI 25)) 10 (nI 26)) 11 (nI 27))))] H := hP
  have hD : va_D A [(h0, .inr (9, [.null, .int 0, .null, .null, .null, .null, .null, .int 0, .int 0, .null, .int 0])), (q_1, .inl (kA 0, 16, .inl (upd (upd (upd (upd (upd (upd (upd (upd (upd (upd (upd (upd (fun _ => 0) 0 (nI 10)) 1 (nI 11)) 2 (nI 18)) 3 (nI 19)) 4 (nI 14)) 5 (nI 15)) 6 (nI 22)) 7 (nI 23)) 8 (nI 9)) 9 (nI 25)) 10 (nI 26)) 11 (nI 27))))] := hD
  refine lv_dup hx hb dX8_init_75 rfl ?_
  refine lv_bipush (v := nI 12) hx hb dX8_init_76 (by decide) ?_
  refine lv_bipush (v := nI 13) hx hb dX8_init_78 (by decide) ?_
  refine va_iast hx hb hK hP hD hS 1 0 rfl rfl (vp_in_nI (n := 12) (by omega) (by decide)) dX8_init_80 (fun H locs hP hD hS => ?_)
  rw [nI_clamp (n := 12) (by omega)] at hP hD
  have hP : va_P D vwCl [(h0, .inr (9, [.null, .int 0, .null, .null, .null, .null, .null, .int 0, .int 0, .null, .int 0])), (q_1, .inl (kA 0, 16, .inl (upd (upd (upd (upd (upd (upd (upd (upd (upd (upd (upd (upd (upd (fun _ => 0) 0 (nI 10)) 1 (nI 11)) 2 (nI 18)) 3 (nI 19)) 4 (nI 14)) 5 (nI 15)) 6 (nI 22)) 7 (nI 23)) 8 (nI 9)) 9 (nI 25)) 10 (nI 26)) 11 (nI 27)) 12 (nI 13))))] H := hP
  have hD : va_D A [(h0, .inr (9, [.null, .int 0, .null, .null, .null, .null, .null, .int 0, .int 0, .null, .int 0])), (q_1, .inl (kA 0, 16, .inl (upd (upd (upd (upd (upd (upd (upd (upd (upd (upd (upd (upd (upd (fun _ => 0) 0 (nI 10)) 1 (nI 11)) 2 (nI 18)) 3 (nI 19)) 4 (nI 14)) 5 (nI 15)) 6 (nI 22)) 7 (nI 23)) 8 (nI 9)) 9 (nI 25)) 10 (nI 26)) 11 (nI 27)) 12 (nI 13))))] := hD
  refine lv_dup hx hb dX8_init_81 rfl ?_
  refine lv_bipush (v := nI 13) hx hb dX8_init_82 (by decide) ?_
  refine lv_bipush (v := nI 29) hx hb dX8_init_84 (by decide) ?_
  refine va_iast hx hb hK hP hD hS 1 0 rfl rfl (vp_in_nI (n := 13) (by omega) (by decide)) dX8_init_86 (fun H locs hP hD hS => ?_)
  rw [nI_clamp (n := 13) (by omega)] at hP hD
  have hP : va_P D vwCl [(h0, .inr (9, [.null, .int 0, .null, .null, .null, .null, .null, .int 0, .int 0, .null, .int 0])), (q_1, .inl (kA 0, 16, .inl (upd (upd (upd (upd (upd (upd (upd (upd (upd (upd (upd (upd (upd (upd (fun _ => 0) 0 (nI 10)) 1 (nI 11)) 2 (nI 18)) 3 (nI 19)) 4 (nI 14)) 5 (nI 15)) 6 (nI 22)) 7 (nI 23)) 8 (nI 9)) 9 (nI 25)) 10 (nI 26)) 11 (nI 27)) 12 (nI 13)) 13 (nI 29))))] H := hP
  have hD : va_D A [(h0, .inr (9, [.null, .int 0, .null, .null, .null, .null, .null, .int 0, .int 0, .null, .int 0])), (q_1, .inl (kA 0, 16, .inl (upd (upd (upd (upd (upd (upd (upd (upd (upd (upd (upd (upd (upd (upd (fun _ => 0) 0 (nI 10)) 1 (nI 11)) 2 (nI 18)) 3 (nI 19)) 4 (nI 14)) 5 (nI 15)) 6 (nI 22)) 7 (nI 23)) 8 (nI 9)) 9 (nI 25)) 10 (nI 26)) 11 (nI 27)) 12 (nI 13)) 13 (nI 29))))] := hD
  refine lv_dup hx hb dX8_init_87 rfl ?_
  refine lv_bipush (v := nI 14) hx hb dX8_init_88 (by decide) ?_
  refine lv_bipush (v := nI 30) hx hb dX8_init_90 (by decide) ?_
  refine va_iast hx hb hK hP hD hS 1 0 rfl rfl (vp_in_nI (n := 14) (by omega) (by decide)) dX8_init_92 (fun H locs hP hD hS => ?_)
  rw [nI_clamp (n := 14) (by omega)] at hP hD
  have hP : va_P D vwCl [(h0, .inr (9, [.null, .int 0, .null, .null, .null, .null, .null, .int 0, .int 0, .null, .int 0])), (q_1, .inl (kA 0, 16, .inl (upd (upd (upd (upd (upd (upd (upd (upd (upd (upd (upd (upd (upd (upd (upd (fun _ => 0) 0 (nI 10)) 1 (nI 11)) 2 (nI 18)) 3 (nI 19)) 4 (nI 14)) 5 (nI 15)) 6 (nI 22)) 7 (nI 23)) 8 (nI 9)) 9 (nI 25)) 10 (nI 26)) 11 (nI 27)) 12 (nI 13)) 13 (nI 29)) 14 (nI 30))))] H := hP
  have hD : va_D A [(h0, .inr (9, [.null, .int 0, .null, .null, .null, .null, .null, .int 0, .int 0, .null, .int 0])), (q_1, .inl (kA 0, 16, .inl (upd (upd (upd (upd (upd (upd (upd (upd (upd (upd (upd (upd (upd (upd (upd (fun _ => 0) 0 (nI 10)) 1 (nI 11)) 2 (nI 18)) 3 (nI 19)) 4 (nI 14)) 5 (nI 15)) 6 (nI 22)) 7 (nI 23)) 8 (nI 9)) 9 (nI 25)) 10 (nI 26)) 11 (nI 27)) 12 (nI 13)) 13 (nI 29)) 14 (nI 30))))] := hD
  refine lv_dup hx hb dX8_init_93 rfl ?_
  refine lv_bipush (v := nI 15) hx hb dX8_init_94 (by decide) ?_
  refine lv_bipush (v := nI 21) hx hb dX8_init_96 (by decide) ?_
  refine va_iast hx hb hK hP hD hS 1 0 rfl rfl (vp_in_nI (n := 15) (by omega) (by decide)) dX8_init_98 (fun H locs hP hD hS => ?_)
  rw [nI_clamp (n := 15) (by omega)] at hP hD
  have hP : va_P D vwCl [(h0, .inr (9, [.null, .int 0, .null, .null, .null, .null, .null, .int 0, .int 0, .null, .int 0])), (q_1, .inl (kA 0, 16, .inl (upd (upd (upd (upd (upd (upd (upd (upd (upd (upd (upd (upd (upd (upd (upd (upd (fun _ => 0) 0 (nI 10)) 1 (nI 11)) 2 (nI 18)) 3 (nI 19)) 4 (nI 14)) 5 (nI 15)) 6 (nI 22)) 7 (nI 23)) 8 (nI 9)) 9 (nI 25)) 10 (nI 26)) 11 (nI 27)) 12 (nI 13)) 13 (nI 29)) 14 (nI 30)) 15 (nI 21))))] H := hP
  have hD : va_D A [(h0, .inr (9, [.null, .int 0, .null, .null, .null, .null, .null, .int 0, .int 0, .null, .int 0])), (q_1, .inl (kA 0, 16, .inl (upd (upd (upd (upd (upd (upd (upd (upd (upd (upd (upd (upd (upd (upd (upd (upd (fun _ => 0) 0 (nI 10)) 1 (nI 11)) 2 (nI 18)) 3 (nI 19)) 4 (nI 14)) 5 (nI 15)) 6 (nI 22)) 7 (nI 23)) 8 (nI 9)) 9 (nI 25)) 10 (nI 26)) 11 (nI 27)) 12 (nI 13)) 13 (nI 29)) 14 (nI 30)) 15 (nI 21))))] := hD
  refine va_putF (D := D) (ci := 9) (v := .ref q_1) (ty := (tyX8 0)) (C := RX8) (T := TX8) (N := 11) hx hb hts n_X8_init_X8 tyX8 tyX8_ok nmX8 hown hK hP hD hS 0 rfl rfl 0 (by decide) (wAt hts 5 (w := .fieldLink RX8 9 "FluxBenchModel$Track" "fives" "[I") rfl) (fun _ h9 => h9) rfl hnm rfl (by decide +kernel) rfl rfl (Nat.le_of_ble_eq_true rfl) dX8_init_99 (fun H locs hP hD hS => ?_)
  have hP : va_P D vwCl [(h0, .inr (9, [.ref q_1, .int 0, .null, .null, .null, .null, .null, .int 0, .int 0, .null, .int 0])), (q_1, .inl (kA 0, 16, .inl (upd (upd (upd (upd (upd (upd (upd (upd (upd (upd (upd (upd (upd (upd (upd (upd (fun _ => 0) 0 (nI 10)) 1 (nI 11)) 2 (nI 18)) 3 (nI 19)) 4 (nI 14)) 5 (nI 15)) 6 (nI 22)) 7 (nI 23)) 8 (nI 9)) 9 (nI 25)) 10 (nI 26)) 11 (nI 27)) 12 (nI 13)) 13 (nI 29)) 14 (nI 30)) 15 (nI 21))))] H := hP
  have hD : va_D A [(h0, .inr (9, [.ref q_1, .int 0, .null, .null, .null, .null, .null, .int 0, .int 0, .null, .int 0])), (q_1, .inl (kA 0, 16, .inl (upd (upd (upd (upd (upd (upd (upd (upd (upd (upd (upd (upd (upd (upd (upd (upd (fun _ => 0) 0 (nI 10)) 1 (nI 11)) 2 (nI 18)) 3 (nI 19)) 4 (nI 14)) 5 (nI 15)) 6 (nI 22)) 7 (nI 23)) 8 (nI 9)) 9 (nI 25)) 10 (nI 26)) 11 (nI 27)) 12 (nI 13)) 13 (nI 29)) 14 (nI 30)) 15 (nI 21))))] := hD
  refine lv_aload_n hx hb dX8_init_102 rfl (lv_at hl 0 rfl) ?_
  refine lv_sipush (v := nI 400) hx hb dX8_init_103 (by decide) ?_
  refine va_newa (atype := .int) (ty := .int) (N' := 400) (a0 := (400, .inl (fun _ => 0))) hx hb (wAt hts 4 (w := .arrayClass .int) rfl) rfl hK hP hD hS hA (fun _ => rfl) (nI_pos (n := 400) (by decide)) (nI_clamp (n := 400) (by decide)) (by decide) (Nat.le_of_ble_eq_true rfl) (Nat.le_of_ble_eq_true rfl) dX8_init_106 (fun q_2 cA H hK hP hD hS => ?_)
  obtain rfl : cA = kA 0 := tyEq hK 6 0 rfl rfl
  have hK : va_K D vwCl (tyL kA) s := hK.sub [0, 1, 2, 3, 4, 5] rfl
  have hP : va_P D vwCl [(h0, .inr (9, [.ref q_1, .int 0, .null, .null, .null, .null, .null, .int 0, .int 0, .null, .int 0])), (q_1, .inl (kA 0, 16, .inl (upd (upd (upd (upd (upd (upd (upd (upd (upd (upd (upd (upd (upd (upd (upd (upd (fun _ => 0) 0 (nI 10)) 1 (nI 11)) 2 (nI 18)) 3 (nI 19)) 4 (nI 14)) 5 (nI 15)) 6 (nI 22)) 7 (nI 23)) 8 (nI 9)) 9 (nI 25)) 10 (nI 26)) 11 (nI 27)) 12 (nI 13)) 13 (nI 29)) 14 (nI 30)) 15 (nI 21)))), (q_2, .inl (kA 0, 400, .inl (fun _ => 0)))] H := hP
  have hD : va_D A [(h0, .inr (9, [.ref q_1, .int 0, .null, .null, .null, .null, .null, .int 0, .int 0, .null, .int 0])), (q_1, .inl (kA 0, 16, .inl (upd (upd (upd (upd (upd (upd (upd (upd (upd (upd (upd (upd (upd (upd (upd (upd (fun _ => 0) 0 (nI 10)) 1 (nI 11)) 2 (nI 18)) 3 (nI 19)) 4 (nI 14)) 5 (nI 15)) 6 (nI 22)) 7 (nI 23)) 8 (nI 9)) 9 (nI 25)) 10 (nI 26)) 11 (nI 27)) 12 (nI 13)) 13 (nI 29)) 14 (nI 30)) 15 (nI 21)))), (q_2, .inl (kA 0, 400, .inl (fun _ => 0)))] := hD
  refine va_putF (D := D) (ci := 9) (v := .ref q_2) (ty := (tyX8 2)) (C := RX8) (T := TX8) (N := 11) hx hb hts n_X8_init_X8 tyX8 tyX8_ok nmX8 hown hK hP hD hS 0 rfl rfl 2 (by decide) (wAt hts 6 (w := .fieldLink RX8 15 "FluxBenchModel$Track" "bits" "[I") rfl) (fun _ h9 => h9) rfl hnm rfl (by decide +kernel) rfl rfl (Nat.le_of_ble_eq_true rfl) dX8_init_108 (fun H locs hP hD hS => ?_)
  have hP : va_P D vwCl [(h0, .inr (9, [.ref q_1, .int 0, .ref q_2, .null, .null, .null, .null, .int 0, .int 0, .null, .int 0])), (q_1, .inl (kA 0, 16, .inl (upd (upd (upd (upd (upd (upd (upd (upd (upd (upd (upd (upd (upd (upd (upd (upd (fun _ => 0) 0 (nI 10)) 1 (nI 11)) 2 (nI 18)) 3 (nI 19)) 4 (nI 14)) 5 (nI 15)) 6 (nI 22)) 7 (nI 23)) 8 (nI 9)) 9 (nI 25)) 10 (nI 26)) 11 (nI 27)) 12 (nI 13)) 13 (nI 29)) 14 (nI 30)) 15 (nI 21)))), (q_2, .inl (kA 0, 400, .inl (fun _ => 0)))] H := hP
  have hD : va_D A [(h0, .inr (9, [.ref q_1, .int 0, .ref q_2, .null, .null, .null, .null, .int 0, .int 0, .null, .int 0])), (q_1, .inl (kA 0, 16, .inl (upd (upd (upd (upd (upd (upd (upd (upd (upd (upd (upd (upd (upd (upd (upd (upd (fun _ => 0) 0 (nI 10)) 1 (nI 11)) 2 (nI 18)) 3 (nI 19)) 4 (nI 14)) 5 (nI 15)) 6 (nI 22)) 7 (nI 23)) 8 (nI 9)) 9 (nI 25)) 10 (nI 26)) 11 (nI 27)) 12 (nI 13)) 13 (nI 29)) 14 (nI 30)) 15 (nI 21)))), (q_2, .inl (kA 0, 400, .inl (fun _ => 0)))] := hD
  refine lv_aload_n hx hb dX8_init_111 rfl (lv_at hl 0 rfl) ?_
  refine lv_sipush (v := nI 400) hx hb dX8_init_112 (by decide) ?_
  refine va_newa (atype := .int) (ty := .int) (N' := 400) (a0 := (400, .inl (fun _ => 0))) hx hb (wAt hts 4 (w := .arrayClass .int) rfl) rfl hK hP hD hS hA (fun _ => rfl) (nI_pos (n := 400) (by decide)) (nI_clamp (n := 400) (by decide)) (by decide) (Nat.le_of_ble_eq_true rfl) (Nat.le_of_ble_eq_true rfl) dX8_init_115 (fun q_3 cA H hK hP hD hS => ?_)
  obtain rfl : cA = kA 0 := tyEq hK 6 0 rfl rfl
  have hK : va_K D vwCl (tyL kA) s := hK.sub [0, 1, 2, 3, 4, 5] rfl
  have hP : va_P D vwCl [(h0, .inr (9, [.ref q_1, .int 0, .ref q_2, .null, .null, .null, .null, .int 0, .int 0, .null, .int 0])), (q_1, .inl (kA 0, 16, .inl (upd (upd (upd (upd (upd (upd (upd (upd (upd (upd (upd (upd (upd (upd (upd (upd (fun _ => 0) 0 (nI 10)) 1 (nI 11)) 2 (nI 18)) 3 (nI 19)) 4 (nI 14)) 5 (nI 15)) 6 (nI 22)) 7 (nI 23)) 8 (nI 9)) 9 (nI 25)) 10 (nI 26)) 11 (nI 27)) 12 (nI 13)) 13 (nI 29)) 14 (nI 30)) 15 (nI 21)))), (q_2, .inl (kA 0, 400, .inl (fun _ => 0))), (q_3, .inl (kA 0, 400, .inl (fun _ => 0)))] H := hP
  have hD : va_D A [(h0, .inr (9, [.ref q_1, .int 0, .ref q_2, .null, .null, .null, .null, .int 0, .int 0, .null, .int 0])), (q_1, .inl (kA 0, 16, .inl (upd (upd (upd (upd (upd (upd (upd (upd (upd (upd (upd (upd (upd (upd (upd (upd (fun _ => 0) 0 (nI 10)) 1 (nI 11)) 2 (nI 18)) 3 (nI 19)) 4 (nI 14)) 5 (nI 15)) 6 (nI 22)) 7 (nI 23)) 8 (nI 9)) 9 (nI 25)) 10 (nI 26)) 11 (nI 27)) 12 (nI 13)) 13 (nI 29)) 14 (nI 30)) 15 (nI 21)))), (q_2, .inl (kA 0, 400, .inl (fun _ => 0))), (q_3, .inl (kA 0, 400, .inl (fun _ => 0)))] := hD
  refine va_putF (D := D) (ci := 9) (v := .ref q_3) (ty := (tyX8 3)) (C := RX8) (T := TX8) (N := 11) hx hb hts n_X8_init_X8 tyX8 tyX8_ok nmX8 hown hK hP hD hS 0 rfl rfl 3 (by decide) (wAt hts 7 (w := .fieldLink RX8 18 "FluxBenchModel$Track" "widths" "[I") rfl) (fun _ h9 => h9) rfl hnm rfl (by decide +kernel) rfl rfl (Nat.le_of_ble_eq_true rfl) dX8_init_117 (fun H locs hP hD hS => ?_)
  have hP : va_P D vwCl [(h0, .inr (9, [.ref q_1, .int 0, .ref q_2, .ref q_3, .null, .null, .null, .int 0, .int 0, .null, .int 0])), (q_1, .inl (kA 0, 16, .inl (upd (upd (upd (upd (upd (upd (upd (upd (upd (upd (upd (upd (upd (upd (upd (upd (fun _ => 0) 0 (nI 10)) 1 (nI 11)) 2 (nI 18)) 3 (nI 19)) 4 (nI 14)) 5 (nI 15)) 6 (nI 22)) 7 (nI 23)) 8 (nI 9)) 9 (nI 25)) 10 (nI 26)) 11 (nI 27)) 12 (nI 13)) 13 (nI 29)) 14 (nI 30)) 15 (nI 21)))), (q_2, .inl (kA 0, 400, .inl (fun _ => 0))), (q_3, .inl (kA 0, 400, .inl (fun _ => 0)))] H := hP
  have hD : va_D A [(h0, .inr (9, [.ref q_1, .int 0, .ref q_2, .ref q_3, .null, .null, .null, .int 0, .int 0, .null, .int 0])), (q_1, .inl (kA 0, 16, .inl (upd (upd (upd (upd (upd (upd (upd (upd (upd (upd (upd (upd (upd (upd (upd (upd (fun _ => 0) 0 (nI 10)) 1 (nI 11)) 2 (nI 18)) 3 (nI 19)) 4 (nI 14)) 5 (nI 15)) 6 (nI 22)) 7 (nI 23)) 8 (nI 9)) 9 (nI 25)) 10 (nI 26)) 11 (nI 27)) 12 (nI 13)) 13 (nI 29)) 14 (nI 30)) 15 (nI 21)))), (q_2, .inl (kA 0, 400, .inl (fun _ => 0))), (q_3, .inl (kA 0, 400, .inl (fun _ => 0)))] := hD
  refine lv_aload_n hx hb dX8_init_120 rfl (lv_at hl 0 rfl) ?_
  refine lv_sipush (v := nI 400) hx hb dX8_init_121 (by decide) ?_
  refine va_newa (atype := .boolean) (ty := .boolean) (N' := 400) (a0 := (400, .inl (fun _ => 0))) hx hb (wAt hts 8 (w := .arrayClass .boolean) rfl) rfl hK hP hD hS hA (fun _ => rfl) (nI_pos (n := 400) (by decide)) (nI_clamp (n := 400) (by decide)) (by decide) (Nat.le_of_ble_eq_true rfl) (Nat.le_of_ble_eq_true rfl) dX8_init_124 (fun q_4 cA H hK hP hD hS => ?_)
  obtain rfl : cA = kA 1 := tyEq hK 6 1 rfl rfl
  have hK : va_K D vwCl (tyL kA) s := hK.sub [0, 1, 2, 3, 4, 5] rfl
  have hP : va_P D vwCl [(h0, .inr (9, [.ref q_1, .int 0, .ref q_2, .ref q_3, .null, .null, .null, .int 0, .int 0, .null, .int 0])), (q_1, .inl (kA 0, 16, .inl (upd (upd (upd (upd (upd (upd (upd (upd (upd (upd (upd (upd (upd (upd (upd (upd (fun _ => 0) 0 (nI 10)) 1 (nI 11)) 2 (nI 18)) 3 (nI 19)) 4 (nI 14)) 5 (nI 15)) 6 (nI 22)) 7 (nI 23)) 8 (nI 9)) 9 (nI 25)) 10 (nI 26)) 11 (nI 27)) 12 (nI 13)) 13 (nI 29)) 14 (nI 30)) 15 (nI 21)))), (q_2, .inl (kA 0, 400, .inl (fun _ => 0))), (q_3, .inl (kA 0, 400, .inl (fun _ => 0))), (q_4, .inl (kA 1, 400, .inl (fun _ => 0)))] H := hP
  have hD : va_D A [(h0, .inr (9, [.ref q_1, .int 0, .ref q_2, .ref q_3, .null, .null, .null, .int 0, .int 0, .null, .int 0])), (q_1, .inl (kA 0, 16, .inl (upd (upd (upd (upd (upd (upd (upd (upd (upd (upd (upd (upd (upd (upd (upd (upd (fun _ => 0) 0 (nI 10)) 1 (nI 11)) 2 (nI 18)) 3 (nI 19)) 4 (nI 14)) 5 (nI 15)) 6 (nI 22)) 7 (nI 23)) 8 (nI 9)) 9 (nI 25)) 10 (nI 26)) 11 (nI 27)) 12 (nI 13)) 13 (nI 29)) 14 (nI 30)) 15 (nI 21)))), (q_2, .inl (kA 0, 400, .inl (fun _ => 0))), (q_3, .inl (kA 0, 400, .inl (fun _ => 0))), (q_4, .inl (kA 1, 400, .inl (fun _ => 0)))] := hD
  refine va_putF (D := D) (ci := 9) (v := .ref q_4) (ty := (tyX8 4)) (C := RX8) (T := TX8) (N := 11) hx hb hts n_X8_init_X8 tyX8 tyX8_ok nmX8 hown hK hP hD hS 0 rfl rfl 4 (by decide) (wAt hts 9 (w := .fieldLink RX8 21 "FluxBenchModel$Track" "weak" "[Z") rfl) (fun _ h9 => h9) rfl hnm rfl (by decide +kernel) rfl rfl (Nat.le_of_ble_eq_true rfl) dX8_init_126 (fun H locs hP hD hS => ?_)
  have hP : va_P D vwCl [(h0, .inr (9, [.ref q_1, .int 0, .ref q_2, .ref q_3, .ref q_4, .null, .null, .int 0, .int 0, .null, .int 0])), (q_1, .inl (kA 0, 16, .inl (upd (upd (upd (upd (upd (upd (upd (upd (upd (upd (upd (upd (upd (upd (upd (upd (fun _ => 0) 0 (nI 10)) 1 (nI 11)) 2 (nI 18)) 3 (nI 19)) 4 (nI 14)) 5 (nI 15)) 6 (nI 22)) 7 (nI 23)) 8 (nI 9)) 9 (nI 25)) 10 (nI 26)) 11 (nI 27)) 12 (nI 13)) 13 (nI 29)) 14 (nI 30)) 15 (nI 21)))), (q_2, .inl (kA 0, 400, .inl (fun _ => 0))), (q_3, .inl (kA 0, 400, .inl (fun _ => 0))), (q_4, .inl (kA 1, 400, .inl (fun _ => 0)))] H := hP
  have hD : va_D A [(h0, .inr (9, [.ref q_1, .int 0, .ref q_2, .ref q_3, .ref q_4, .null, .null, .int 0, .int 0, .null, .int 0])), (q_1, .inl (kA 0, 16, .inl (upd (upd (upd (upd (upd (upd (upd (upd (upd (upd (upd (upd (upd (upd (upd (upd (fun _ => 0) 0 (nI 10)) 1 (nI 11)) 2 (nI 18)) 3 (nI 19)) 4 (nI 14)) 5 (nI 15)) 6 (nI 22)) 7 (nI 23)) 8 (nI 9)) 9 (nI 25)) 10 (nI 26)) 11 (nI 27)) 12 (nI 13)) 13 (nI 29)) 14 (nI 30)) 15 (nI 21)))), (q_2, .inl (kA 0, 400, .inl (fun _ => 0))), (q_3, .inl (kA 0, 400, .inl (fun _ => 0))), (q_4, .inl (kA 1, 400, .inl (fun _ => 0)))] := hD
  refine lv_aload_n hx hb dX8_init_129 rfl (lv_at hl 0 rfl) ?_
  refine lv_sipush (v := nI 400) hx hb dX8_init_130 (by decide) ?_
  refine va_newa (atype := .int) (ty := .int) (N' := 400) (a0 := (400, .inl (fun _ => 0))) hx hb (wAt hts 4 (w := .arrayClass .int) rfl) rfl hK hP hD hS hA (fun _ => rfl) (nI_pos (n := 400) (by decide)) (nI_clamp (n := 400) (by decide)) (by decide) (Nat.le_of_ble_eq_true rfl) (Nat.le_of_ble_eq_true rfl) dX8_init_133 (fun q_5 cA H hK hP hD hS => ?_)
  obtain rfl : cA = kA 0 := tyEq hK 6 0 rfl rfl
  have hK : va_K D vwCl (tyL kA) s := hK.sub [0, 1, 2, 3, 4, 5] rfl
  have hP : va_P D vwCl [(h0, .inr (9, [.ref q_1, .int 0, .ref q_2, .ref q_3, .ref q_4, .null, .null, .int 0, .int 0, .null, .int 0])), (q_1, .inl (kA 0, 16, .inl (upd (upd (upd (upd (upd (upd (upd (upd (upd (upd (upd (upd (upd (upd (upd (upd (fun _ => 0) 0 (nI 10)) 1 (nI 11)) 2 (nI 18)) 3 (nI 19)) 4 (nI 14)) 5 (nI 15)) 6 (nI 22)) 7 (nI 23)) 8 (nI 9)) 9 (nI 25)) 10 (nI 26)) 11 (nI 27)) 12 (nI 13)) 13 (nI 29)) 14 (nI 30)) 15 (nI 21)))), (q_2, .inl (kA 0, 400, .inl (fun _ => 0))), (q_3, .inl (kA 0, 400, .inl (fun _ => 0))), (q_4, .inl (kA 1, 400, .inl (fun _ => 0))), (q_5, .inl (kA 0, 400, .inl (fun _ => 0)))] H := hP
  have hD : va_D A [(h0, .inr (9, [.ref q_1, .int 0, .ref q_2, .ref q_3, .ref q_4, .null, .null, .int 0, .int 0, .null, .int 0])), (q_1, .inl (kA 0, 16, .inl (upd (upd (upd (upd (upd (upd (upd (upd (upd (upd (upd (upd (upd (upd (upd (upd (fun _ => 0) 0 (nI 10)) 1 (nI 11)) 2 (nI 18)) 3 (nI 19)) 4 (nI 14)) 5 (nI 15)) 6 (nI 22)) 7 (nI 23)) 8 (nI 9)) 9 (nI 25)) 10 (nI 26)) 11 (nI 27)) 12 (nI 13)) 13 (nI 29)) 14 (nI 30)) 15 (nI 21)))), (q_2, .inl (kA 0, 400, .inl (fun _ => 0))), (q_3, .inl (kA 0, 400, .inl (fun _ => 0))), (q_4, .inl (kA 1, 400, .inl (fun _ => 0))), (q_5, .inl (kA 0, 400, .inl (fun _ => 0)))] := hD
  refine va_putF (D := D) (ci := 9) (v := .ref q_5) (ty := (tyX8 5)) (C := RX8) (T := TX8) (N := 11) hx hb hts n_X8_init_X8 tyX8 tyX8_ok nmX8 hown hK hP hD hS 0 rfl rfl 5 (by decide) (wAt hts 10 (w := .fieldLink RX8 25 "FluxBenchModel$Track" "states" "[I") rfl) (fun _ h9 => h9) rfl hnm rfl (by decide +kernel) rfl rfl (Nat.le_of_ble_eq_true rfl) dX8_init_135 (fun H locs hP hD hS => ?_)
  have hP : va_P D vwCl [(h0, .inr (9, [.ref q_1, .int 0, .ref q_2, .ref q_3, .ref q_4, .ref q_5, .null, .int 0, .int 0, .null, .int 0])), (q_1, .inl (kA 0, 16, .inl (upd (upd (upd (upd (upd (upd (upd (upd (upd (upd (upd (upd (upd (upd (upd (upd (fun _ => 0) 0 (nI 10)) 1 (nI 11)) 2 (nI 18)) 3 (nI 19)) 4 (nI 14)) 5 (nI 15)) 6 (nI 22)) 7 (nI 23)) 8 (nI 9)) 9 (nI 25)) 10 (nI 26)) 11 (nI 27)) 12 (nI 13)) 13 (nI 29)) 14 (nI 30)) 15 (nI 21)))), (q_2, .inl (kA 0, 400, .inl (fun _ => 0))), (q_3, .inl (kA 0, 400, .inl (fun _ => 0))), (q_4, .inl (kA 1, 400, .inl (fun _ => 0))), (q_5, .inl (kA 0, 400, .inl (fun _ => 0)))] H := hP
  have hD : va_D A [(h0, .inr (9, [.ref q_1, .int 0, .ref q_2, .ref q_3, .ref q_4, .ref q_5, .null, .int 0, .int 0, .null, .int 0])), (q_1, .inl (kA 0, 16, .inl (upd (upd (upd (upd (upd (upd (upd (upd (upd (upd (upd (upd (upd (upd (upd (upd (fun _ => 0) 0 (nI 10)) 1 (nI 11)) 2 (nI 18)) 3 (nI 19)) 4 (nI 14)) 5 (nI 15)) 6 (nI 22)) 7 (nI 23)) 8 (nI 9)) 9 (nI 25)) 10 (nI 26)) 11 (nI 27)) 12 (nI 13)) 13 (nI 29)) 14 (nI 30)) 15 (nI 21)))), (q_2, .inl (kA 0, 400, .inl (fun _ => 0))), (q_3, .inl (kA 0, 400, .inl (fun _ => 0))), (q_4, .inl (kA 1, 400, .inl (fun _ => 0))), (q_5, .inl (kA 0, 400, .inl (fun _ => 0)))] := hD
  refine lv_aload_n hx hb dX8_init_138 rfl (lv_at hl 0 rfl) ?_
  refine lv_sipush (v := nI 400) hx hb dX8_init_139 (by decide) ?_
  refine va_newa (atype := .int) (ty := .int) (N' := 400) (a0 := (400, .inl (fun _ => 0))) hx hb (wAt hts 4 (w := .arrayClass .int) rfl) rfl hK hP hD hS hA (fun _ => rfl) (nI_pos (n := 400) (by decide)) (nI_clamp (n := 400) (by decide)) (by decide) (Nat.le_of_ble_eq_true rfl) (Nat.le_of_ble_eq_true rfl) dX8_init_142 (fun q_6 cA H hK hP hD hS => ?_)
  obtain rfl : cA = kA 0 := tyEq hK 6 0 rfl rfl
  have hK : va_K D vwCl (tyL kA) s := hK.sub [0, 1, 2, 3, 4, 5] rfl
  have hP : va_P D vwCl [(h0, .inr (9, [.ref q_1, .int 0, .ref q_2, .ref q_3, .ref q_4, .ref q_5, .null, .int 0, .int 0, .null, .int 0])), (q_1, .inl (kA 0, 16, .inl (upd (upd (upd (upd (upd (upd (upd (upd (upd (upd (upd (upd (upd (upd (upd (upd (fun _ => 0) 0 (nI 10)) 1 (nI 11)) 2 (nI 18)) 3 (nI 19)) 4 (nI 14)) 5 (nI 15)) 6 (nI 22)) 7 (nI 23)) 8 (nI 9)) 9 (nI 25)) 10 (nI 26)) 11 (nI 27)) 12 (nI 13)) 13 (nI 29)) 14 (nI 30)) 15 (nI 21)))), (q_2, .inl (kA 0, 400, .inl (fun _ => 0))), (q_3, .inl (kA 0, 400, .inl (fun _ => 0))), (q_4, .inl (kA 1, 400, .inl (fun _ => 0))), (q_5, .inl (kA 0, 400, .inl (fun _ => 0))), (q_6, .inl (kA 0, 400, .inl (fun _ => 0)))] H := hP
  have hD : va_D A [(h0, .inr (9, [.ref q_1, .int 0, .ref q_2, .ref q_3, .ref q_4, .ref q_5, .null, .int 0, .int 0, .null, .int 0])), (q_1, .inl (kA 0, 16, .inl (upd (upd (upd (upd (upd (upd (upd (upd (upd (upd (upd (upd (upd (upd (upd (upd (fun _ => 0) 0 (nI 10)) 1 (nI 11)) 2 (nI 18)) 3 (nI 19)) 4 (nI 14)) 5 (nI 15)) 6 (nI 22)) 7 (nI 23)) 8 (nI 9)) 9 (nI 25)) 10 (nI 26)) 11 (nI 27)) 12 (nI 13)) 13 (nI 29)) 14 (nI 30)) 15 (nI 21)))), (q_2, .inl (kA 0, 400, .inl (fun _ => 0))), (q_3, .inl (kA 0, 400, .inl (fun _ => 0))), (q_4, .inl (kA 1, 400, .inl (fun _ => 0))), (q_5, .inl (kA 0, 400, .inl (fun _ => 0))), (q_6, .inl (kA 0, 400, .inl (fun _ => 0)))] := hD
  refine va_putF (D := D) (ci := 9) (v := .ref q_6) (ty := (tyX8 6)) (C := RX8) (T := TX8) (N := 11) hx hb hts n_X8_init_X8 tyX8 tyX8_ok nmX8 hown hK hP hD hS 0 rfl rfl 6 (by decide) (wAt hts 11 (w := .fieldLink RX8 28 "FluxBenchModel$Track" "dirtyReads" "[I") rfl) (fun _ h9 => h9) rfl hnm rfl (by decide +kernel) rfl rfl (Nat.le_of_ble_eq_true rfl) dX8_init_144 (fun H locs hP hD hS => ?_)
  have hP : va_P D vwCl [(h0, .inr (9, [.ref q_1, .int 0, .ref q_2, .ref q_3, .ref q_4, .ref q_5, .ref q_6, .int 0, .int 0, .null, .int 0])), (q_1, .inl (kA 0, 16, .inl (upd (upd (upd (upd (upd (upd (upd (upd (upd (upd (upd (upd (upd (upd (upd (upd (fun _ => 0) 0 (nI 10)) 1 (nI 11)) 2 (nI 18)) 3 (nI 19)) 4 (nI 14)) 5 (nI 15)) 6 (nI 22)) 7 (nI 23)) 8 (nI 9)) 9 (nI 25)) 10 (nI 26)) 11 (nI 27)) 12 (nI 13)) 13 (nI 29)) 14 (nI 30)) 15 (nI 21)))), (q_2, .inl (kA 0, 400, .inl (fun _ => 0))), (q_3, .inl (kA 0, 400, .inl (fun _ => 0))), (q_4, .inl (kA 1, 400, .inl (fun _ => 0))), (q_5, .inl (kA 0, 400, .inl (fun _ => 0))), (q_6, .inl (kA 0, 400, .inl (fun _ => 0)))] H := hP
  have hD : va_D A [(h0, .inr (9, [.ref q_1, .int 0, .ref q_2, .ref q_3, .ref q_4, .ref q_5, .ref q_6, .int 0, .int 0, .null, .int 0])), (q_1, .inl (kA 0, 16, .inl (upd (upd (upd (upd (upd (upd (upd (upd (upd (upd (upd (upd (upd (upd (upd (upd (fun _ => 0) 0 (nI 10)) 1 (nI 11)) 2 (nI 18)) 3 (nI 19)) 4 (nI 14)) 5 (nI 15)) 6 (nI 22)) 7 (nI 23)) 8 (nI 9)) 9 (nI 25)) 10 (nI 26)) 11 (nI 27)) 12 (nI 13)) 13 (nI 29)) 14 (nI 30)) 15 (nI 21)))), (q_2, .inl (kA 0, 400, .inl (fun _ => 0))), (q_3, .inl (kA 0, 400, .inl (fun _ => 0))), (q_4, .inl (kA 1, 400, .inl (fun _ => 0))), (q_5, .inl (kA 0, 400, .inl (fun _ => 0))), (q_6, .inl (kA 0, 400, .inl (fun _ => 0)))] := hD
  refine lv_aload_n hx hb dX8_init_147 rfl (lv_at hl 0 rfl) ?_
  refine va_new (ci := 1) (fs := [.int 0, .null, .int 0]) (C := RJx4a65c) (T := TJx4a65c) (N := 3) hx hb hts n_X8_init_Jx4a65c tyJx4a65c tyJx4a65c_ok hown (wAt hts 12 (w := .classLink RX8 31 RJx4a65c) rfl) (wAt hts 13 (w := .instantiable RJx4a65c 3) rfl) (wAt hts 14 (w := .initialized RJx4a65c) rfl) hK hP hD hS hA rfl (fun j hj => by rcases j with _ | _ | _ | _ <;> first | rfl | omega) (Nat.le_of_ble_eq_true rfl) (Nat.le_of_ble_eq_true rfl) dX8_init_148 (fun q_7 H hP hD hS => ?_)
  have hP : va_P D vwCl [(h0, .inr (9, [.ref q_1, .int 0, .ref q_2, .ref q_3, .ref q_4, .ref q_5, .ref q_6, .int 0, .int 0, .null, .int 0])), (q_1, .inl (kA 0, 16, .inl (upd (upd (upd (upd (upd (upd (upd (upd (upd (upd (upd (upd (upd (upd (upd (upd (fun _ => 0) 0 (nI 10)) 1 (nI 11)) 2 (nI 18)) 3 (nI 19)) 4 (nI 14)) 5 (nI 15)) 6 (nI 22)) 7 (nI 23)) 8 (nI 9)) 9 (nI 25)) 10 (nI 26)) 11 (nI 27)) 12 (nI 13)) 13 (nI 29)) 14 (nI 30)) 15 (nI 21)))), (q_2, .inl (kA 0, 400, .inl (fun _ => 0))), (q_3, .inl (kA 0, 400, .inl (fun _ => 0))), (q_4, .inl (kA 1, 400, .inl (fun _ => 0))), (q_5, .inl (kA 0, 400, .inl (fun _ => 0))), (q_6, .inl (kA 0, 400, .inl (fun _ => 0))), (q_7, .inr (1, [.int 0, .null, .int 0]))] H := hP
  have hD : va_D A [(h0, .inr (9, [.ref q_1, .int 0, .ref q_2, .ref q_3, .ref q_4, .ref q_5, .ref q_6, .int 0, .int 0, .null, .int 0])), (q_1, .inl (kA 0, 16, .inl (upd (upd (upd (upd (upd (upd (upd (upd (upd (upd (upd (upd (upd (upd (upd (upd (fun _ => 0) 0 (nI 10)) 1 (nI 11)) 2 (nI 18)) 3 (nI 19)) 4 (nI 14)) 5 (nI 15)) 6 (nI 22)) 7 (nI 23)) 8 (nI 9)) 9 (nI 25)) 10 (nI 26)) 11 (nI 27)) 12 (nI 13)) 13 (nI 29)) 14 (nI 30)) 15 (nI 21)))), (q_2, .inl (kA 0, 400, .inl (fun _ => 0))), (q_3, .inl (kA 0, 400, .inl (fun _ => 0))), (q_4, .inl (kA 1, 400, .inl (fun _ => 0))), (q_5, .inl (kA 0, 400, .inl (fun _ => 0))), (q_6, .inl (kA 0, 400, .inl (fun _ => 0))), (q_7, .inr (1, [.int 0, .null, .int 0]))] := hD
  refine lv_dup hx hb dX8_init_151 rfl ?_
  have hF := va_free (wc := [(q_7, .inr (1, [.int 0, .null, .int 0]))]) hD hS hA [7] rfl
  refine va_callv (va_runI (As := []) (rest := [.ref q_7, .ref h0]) ⟨hx, hb, hml, hown, hts⟩ (c_Jx4a65c_init_da8c8 l D kA z q_7  _) (cwI 0 hts h_X8_init_0 rfl rfl rfl (wAt hts 14 (w := .initialized RJx4a65c) rfl) (wAt hts 15 (w := .methodLink RX8 33 yJx4a65c_init_da8c8) rfl) (wAt hts 16 (w := .instanceMethod yJx4a65c_init_da8c8) rfl) rfl (by decide +kernel) ⟨Nat.le_of_ble_eq_true rfl, Nat.le_of_ble_eq_true rfl⟩) (fPs hK hP hD hS hG hF [7] (by decide) rfl) rfl rfl hl.1 rfl (lv_room (Nat.le_of_ble_eq_true rfl)) dX8_init_152 ⟨Nat.le_of_ble_eq_true rfl, Nat.le_of_ble_eq_true rfl⟩) hS (fun q _ h => hF q h) hF (fun w1 t H locs ht hvm hw hB hz1 hk1 hS => ?_)
  obtain ⟨hP, hD⟩ := fJ (wr := [(h0, .inr (9, [.ref q_1, .int 0, .ref q_2, .ref q_3, .ref q_4, .ref q_5, .ref q_6, .int 0, .int 0, .null, .int 0])), (q_1, .inl (kA 0, 16, .inl (upd (upd (upd (upd (upd (upd (upd (upd (upd (upd (upd (upd (upd (upd (upd (upd (fun _ => 0) 0 (nI 10)) 1 (nI 11)) 2 (nI 18)) 3 (nI 19)) 4 (nI 14)) 5 (nI 15)) 6 (nI 22)) 7 (nI 23)) 8 (nI 9)) 9 (nI 25)) 10 (nI 26)) 11 (nI 27)) 12 (nI 13)) 13 (nI 29)) 14 (nI 30)) 15 (nI 21)))), (q_2, .inl (kA 0, 400, .inl (fun _ => 0))), (q_3, .inl (kA 0, 400, .inl (fun _ => 0))), (q_4, .inl (kA 1, 400, .inl (fun _ => 0))), (q_5, .inl (kA 0, 400, .inl (fun _ => 0))), (q_6, .inl (kA 0, 400, .inl (fun _ => 0)))]) hP hD [7] [0, 1, 2, 3, 4, 5, 6] rfl rfl (by decide) (by decide) hk1 hF ht hB
  try dsimp only at hw
  subst hw
  have hP : va_P D vwCl [(h0, .inr (9, [.ref q_1, .int 0, .ref q_2, .ref q_3, .ref q_4, .ref q_5, .ref q_6, .int 0, .int 0, .null, .int 0])), (q_1, .inl (kA 0, 16, .inl (upd (upd (upd (upd (upd (upd (upd (upd (upd (upd (upd (upd (upd (upd (upd (upd (fun _ => 0) 0 (nI 10)) 1 (nI 11)) 2 (nI 18)) 3 (nI 19)) 4 (nI 14)) 5 (nI 15)) 6 (nI 22)) 7 (nI 23)) 8 (nI 9)) 9 (nI 25)) 10 (nI 26)) 11 (nI 27)) 12 (nI 13)) 13 (nI 29)) 14 (nI 30)) 15 (nI 21)))), (q_2, .inl (kA 0, 400, .inl (fun _ => 0))), (q_3, .inl (kA 0, 400, .inl (fun _ => 0))), (q_4, .inl (kA 1, 400, .inl (fun _ => 0))), (q_5, .inl (kA 0, 400, .inl (fun _ => 0))), (q_6, .inl (kA 0, 400, .inl (fun _ => 0))), (q_7, .inr (1, [.int (nI 0), .ref z, .int (nI 0)]))] H := hP
  have hD : va_D A [(h0, .inr (9, [.ref q_1, .int 0, .ref q_2, .ref q_3, .ref q_4, .ref q_5, .ref q_6, .int 0, .int 0, .null, .int 0])), (q_1, .inl (kA 0, 16, .inl (upd (upd (upd (upd (upd (upd (upd (upd (upd (upd (upd (upd (upd (upd (upd (upd (fun _ => 0) 0 (nI 10)) 1 (nI 11)) 2 (nI 18)) 3 (nI 19)) 4 (nI 14)) 5 (nI 15)) 6 (nI 22)) 7 (nI 23)) 8 (nI 9)) 9 (nI 25)) 10 (nI 26)) 11 (nI 27)) 12 (nI 13)) 13 (nI 29)) 14 (nI 30)) 15 (nI 21)))), (q_2, .inl (kA 0, 400, .inl (fun _ => 0))), (q_3, .inl (kA 0, 400, .inl (fun _ => 0))), (q_4, .inl (kA 1, 400, .inl (fun _ => 0))), (q_5, .inl (kA 0, 400, .inl (fun _ => 0))), (q_6, .inl (kA 0, 400, .inl (fun _ => 0))), (q_7, .inr (1, [.int (nI 0), .ref z, .int (nI 0)]))] := hD
  refine va_putF (D := D) (ci := 9) (v := .ref q_7) (ty := (tyX8 9)) (C := RX8) (T := TX8) (N := 11) hx hb hts n_X8_init_X8 tyX8 tyX8_ok nmX8 hown hK hP hD hS 0 rfl rfl 9 (by decide) (wAt hts 17 (w := .fieldLink RX8 34 "FluxBenchModel$Track" "turns" "Ljava/util/ArrayList;") rfl) (fun _ h9 => h9) rfl hnm rfl (by decide +kernel) rfl rfl (Nat.le_of_ble_eq_true rfl) dX8_init_155 (fun H locs hP hD hS => ?_)
  have hP : va_P D vwCl [(h0, .inr (9, [.ref q_1, .int 0, .ref q_2, .ref q_3, .ref q_4, .ref q_5, .ref q_6, .int 0, .int 0, .ref q_7, .int 0])), (q_1, .inl (kA 0, 16, .inl (upd (upd (upd (upd (upd (upd (upd (upd (upd (upd (upd (upd (upd (upd (upd (upd (fun _ => 0) 0 (nI 10)) 1 (nI 11)) 2 (nI 18)) 3 (nI 19)) 4 (nI 14)) 5 (nI 15)) 6 (nI 22)) 7 (nI 23)) 8 (nI 9)) 9 (nI 25)) 10 (nI 26)) 11 (nI 27)) 12 (nI 13)) 13 (nI 29)) 14 (nI 30)) 15 (nI 21)))), (q_2, .inl (kA 0, 400, .inl (fun _ => 0))), (q_3, .inl (kA 0, 400, .inl (fun _ => 0))), (q_4, .inl (kA 1, 400, .inl (fun _ => 0))), (q_5, .inl (kA 0, 400, .inl (fun _ => 0))), (q_6, .inl (kA 0, 400, .inl (fun _ => 0))), (q_7, .inr (1, [.int (nI 0), .ref z, .int (nI 0)]))] H := hP
  have hD : va_D A [(h0, .inr (9, [.ref q_1, .int 0, .ref q_2, .ref q_3, .ref q_4, .ref q_5, .ref q_6, .int 0, .int 0, .ref q_7, .int 0])), (q_1, .inl (kA 0, 16, .inl (upd (upd (upd (upd (upd (upd (upd (upd (upd (upd (upd (upd (upd (upd (upd (upd (fun _ => 0) 0 (nI 10)) 1 (nI 11)) 2 (nI 18)) 3 (nI 19)) 4 (nI 14)) 5 (nI 15)) 6 (nI 22)) 7 (nI 23)) 8 (nI 9)) 9 (nI 25)) 10 (nI 26)) 11 (nI 27)) 12 (nI 13)) 13 (nI 29)) 14 (nI 30)) 15 (nI 21)))), (q_2, .inl (kA 0, 400, .inl (fun _ => 0))), (q_3, .inl (kA 0, 400, .inl (fun _ => 0))), (q_4, .inl (kA 1, 400, .inl (fun _ => 0))), (q_5, .inl (kA 0, 400, .inl (fun _ => 0))), (q_6, .inl (kA 0, 400, .inl (fun _ => 0))), (q_7, .inr (1, [.int (nI 0), .ref z, .int (nI 0)]))] := hD
  refine lv_aload_n hx hb dX8_init_158 rfl (lv_at hl 0 rfl) ?_
  refine lv_iload_n hx hb dX8_init_159 rfl (lv_at hl 1 rfl) ?_
  refine va_put (D := D) (ci := 9) (v := .int (nI n)) (ty := .int) (C := RX8) (T := TX8) (N := 11) hx hb hts n_X8_init_X8 tyX8 tyX8_ok nmX8 hown hK hP hD hS 0 rfl rfl 1 (by decide) (wAt hts 18 (w := .fieldLink RX8 38 "FluxBenchModel$Track" "code" "I") rfl) (fun _ h9 => h9) rfl (by decide +kernel) rfl rfl (Nat.le_of_ble_eq_true rfl) dX8_init_160 (fun H locs hP hD hS => ?_)
  have hP : va_P D vwCl [(h0, .inr (9, [.ref q_1, .int (nI n), .ref q_2, .ref q_3, .ref q_4, .ref q_5, .ref q_6, .int 0, .int 0, .ref q_7, .int 0])), (q_1, .inl (kA 0, 16, .inl (upd (upd (upd (upd (upd (upd (upd (upd (upd (upd (upd (upd (upd (upd (upd (upd (fun _ => 0) 0 (nI 10)) 1 (nI 11)) 2 (nI 18)) 3 (nI 19)) 4 (nI 14)) 5 (nI 15)) 6 (nI 22)) 7 (nI 23)) 8 (nI 9)) 9 (nI 25)) 10 (nI 26)) 11 (nI 27)) 12 (nI 13)) 13 (nI 29)) 14 (nI 30)) 15 (nI 21)))), (q_2, .inl (kA 0, 400, .inl (fun _ => 0))), (q_3, .inl (kA 0, 400, .inl (fun _ => 0))), (q_4, .inl (kA 1, 400, .inl (fun _ => 0))), (q_5, .inl (kA 0, 400, .inl (fun _ => 0))), (q_6, .inl (kA 0, 400, .inl (fun _ => 0))), (q_7, .inr (1, [.int (nI 0), .ref z, .int (nI 0)]))] H := hP
  have hD : va_D A [(h0, .inr (9, [.ref q_1, .int (nI n), .ref q_2, .ref q_3, .ref q_4, .ref q_5, .ref q_6, .int 0, .int 0, .ref q_7, .int 0])), (q_1, .inl (kA 0, 16, .inl (upd (upd (upd (upd (upd (upd (upd (upd (upd (upd (upd (upd (upd (upd (upd (upd (fun _ => 0) 0 (nI 10)) 1 (nI 11)) 2 (nI 18)) 3 (nI 19)) 4 (nI 14)) 5 (nI 15)) 6 (nI 22)) 7 (nI 23)) 8 (nI 9)) 9 (nI 25)) 10 (nI 26)) 11 (nI 27)) 12 (nI 13)) 13 (nI 29)) 14 (nI 30)) 15 (nI 21)))), (q_2, .inl (kA 0, 400, .inl (fun _ => 0))), (q_3, .inl (kA 0, 400, .inl (fun _ => 0))), (q_4, .inl (kA 1, 400, .inl (fun _ => 0))), (q_5, .inl (kA 0, 400, .inl (fun _ => 0))), (q_6, .inl (kA 0, 400, .inl (fun _ => 0))), (q_7, .inr (1, [.int (nI 0), .ref z, .int (nI 0)]))] := hD
  exact endV hx hb hr hlocks hK hP hD hS (⟨q_1, q_2, q_3, q_4, q_5, q_6, q_7, (upd (upd (upd (upd (upd (upd (upd (upd (upd (upd (upd (upd (upd (upd (upd (upd (fun _ => 0) 0 (nI 10)) 1 (nI 11)) 2 (nI 18)) 3 (nI 19)) 4 (nI 14)) 5 (nI 15)) 6 (nI 22)) 7 (nI 23)) 8 (nI 9)) 9 (nI 25)) 10 (nI 26)) 11 (nI 27)) 12 (nI 13)) 13 (nI 29)) 14 (nI 30)) 15 (nI 21)), rfl⟩) (Nat.le_of_ble_eq_true rfl) (Nat.le_of_ble_eq_true rfl) dX8_init_163

def wq_X10_track_ok : List Cond := .code yX10_track cX10_track 2 (some .int) :: (([.fieldLink RX10 20 "FluxBenchModel" "thrown" "I", .methodLink RX10 27 yX10_is, .static yX10_is, .initialized RX10, .fieldLink RX10 10 "FluxBenchModel" "tracks" "Ljava/util/ArrayList;", .methodLink RX10 23 yJx4a65c_size_8abf5, .instanceMethod yJx4a65c_size_8abf5, .selects RJx4a65c yJx4a65c_size_8abf5 yJx4a65c_size_8abf5, .initialized RJx4a65c, .classLink RX10 35 RX8, .instantiable RX8 11, .initialized RX8, .methodLink RX10 37 yX8_init, .instanceMethod yX8_init, .methodLink RX10 40 yJx4a65c_add_9ea2d, .instanceMethod yJx4a65c_add_9ea2d, .selects RJx4a65c yJx4a65c_add_9ea2d yJx4a65c_add_9ea2d] : List Cond) ++ (u_ws RX10 TX10 8 ++ (u_ws RX8 TX8 11 ++ (wq_X10_is ++ (wq_Jx4a65c_size_8abf5 ++ (wq_X8_init ++ (wq_Jx4a65c_add_9ea2d ++ ([] : List Cond))))))))
theorem gd_X10_track_ok : wq_X10_track_ok.all goodWord = true := by decide +kernel
theorem n_X10_track_ok_X10 : ∀ w ∈ u_ws RX10 TX10 8, w ∈ wq_X10_track_ok := fun w h => List.mem_cons_of_mem _ (List.mem_append_right _ (List.mem_append_left _ h))
theorem n_X10_track_ok_X8 : ∀ w ∈ u_ws RX8 TX8 11, w ∈ wq_X10_track_ok := fun w h => List.mem_cons_of_mem _ (List.mem_append_right _ (List.mem_append_right _ (List.mem_append_left _ h)))
theorem h_X10_track_ok_0 : GoodIn wq_X10_track_ok (va_wsS RX10 27 yX10_is wq_X10_is) := goodIn_app (goodIn_r _ [2, 3, 4] (by decide +kernel) (by decide +kernel)) (goodIn_sub (fun w h => List.mem_cons_of_mem _ (List.mem_append_right _ (List.mem_append_right _ (List.mem_append_right _ (List.mem_append_left _ h))))) gd_X10_is)
theorem h_X10_track_ok_1 : GoodIn wq_X10_track_ok (wsV RX10 23 RJx4a65c yJx4a65c_size_8abf5 wq_Jx4a65c_size_8abf5) := goodIn_app (goodIn_r _ [6, 7, 8, 9] (by decide +kernel) (by decide +kernel)) (goodIn_sub (fun w h => List.mem_cons_of_mem _ (List.mem_append_right _ (List.mem_append_right _ (List.mem_append_right _ (List.mem_append_right _ (List.mem_append_left _ h)))))) gd_Jx4a65c_size_8abf5)
theorem h_X10_track_ok_2 : GoodIn wq_X10_track_ok (wq_X8_init) := goodIn_sub (fun w h => List.mem_cons_of_mem _ (List.mem_append_right _ (List.mem_append_right _ (List.mem_append_right _ (List.mem_append_right _ (List.mem_append_right _ (List.mem_append_left _ h))))))) gd_X8_init
theorem h_X10_track_ok_3 : GoodIn wq_X10_track_ok (wsV RX10 40 RJx4a65c yJx4a65c_add_9ea2d wq_Jx4a65c_add_9ea2d) := goodIn_app (goodIn_r _ [15, 16, 17, 9] (by decide +kernel) (by decide +kernel)) (goodIn_sub (fun w h => List.mem_cons_of_mem _ (List.mem_append_right _ (List.mem_append_right _ (List.mem_append_right _ (List.mem_append_right _ (List.mem_append_right _ (List.mem_append_right _ (List.mem_append_left _ h)))))))) gd_Jx4a65c_add_9ea2d)
set_option maxHeartbeats 4000000 in
set_option maxRecDepth 100000 in
theorem c_X10_track_ok (l : Launch) (D : va_G) (kA : Nat → ClassId) (z : Nat) (h0 q n : Nat) (th : Int32) (h2 : n ≤ 2) : mI l D (tyL kA) z yX10_track wq_X10_track_ok ({ frames := 5, cells := 9, slots := 2040, locals := 150 }) [.ref h0, .int (nI n)] [(h0, .inr (11, [.int th, .ref q, .int (nI 8), .int (nI 0), .int (nI 0), .int (nI 0), .int (nI 0), .long 0])), (q, .inr (1, [.int (nI 0), .ref z, .int (nI 0)]))] (fun r w => ∃ (q2 tk f b1 w9 k1 s1 dr tu : Nat) (f0 : Nat → Int32), w = [(h0, .inr (11, [.int (nI 0), .ref q, .int (nI 8), .int (nI 0), .int (nI 0), .int (nI 0), .int (nI 0), .long 0])), (q, .inr (1, [.int (nI 1), .ref q2, .int (nI 1)])), (q2, .inl (kA 3, 10, .inr (.inr (.inr (.inr (va_up (fun _ => none) 0 (some tk))))))), (tk, .inr (9, [.ref f, .int (nI n), .ref b1, .ref w9, .ref k1, .ref s1, .ref dr, .int (nI 0), .int (nI 0), .ref tu, .int (nI 0)])), (f, .inl (kA 0, 16, .inl f0)), (b1, .inl (kA 0, 400, .inl (fun _ => 0))), (w9, .inl (kA 0, 400, .inl (fun _ => 0))), (k1, .inl (kA 1, 400, .inl (fun _ => 0))), (s1, .inl (kA 0, 400, .inl (fun _ => 0))), (dr, .inl (kA 0, 400, .inl (fun _ => 0))), (tu, .inr (1, [.int (nI 0), .ref z, .int (nI 0)]))] ∧ r = nI 0) := by
  refine ofI (cc := cX10_track) (maxL := 2) RX10 rfl (by decide +kernel) rfl (Nat.le_of_ble_eq_true rfl) ?_
  intro p e s m args below meth c A ls hE
  obtain ⟨hx, hb, hr, hml, hts, hown, hlocks, hA, hS, hP, hK, hD, hG, hl⟩ := hE
  have hl : lv_has ls 2 [(0, .ref h0), (1, .int (nI n))] := hl
  have hH : s.heap = s.heap := rfl
  refine lv_aload_n hx hb dX10_track_0 rfl (lv_at hl 0 rfl) ?_
  refine lv_iconst (v := nI 0) hx hb dX10_track_1 (by decide) ?_
  refine va_put (D := D) (ci := 11) (v := .int (nI 0)) (ty := .int) (C := RX10) (T := TX10) (N := 8) hx hb hts n_X10_track_ok_X10 tyX10 tyX10_ok nmX10 hown hK hP hD hS 0 rfl rfl 0 (by decide) (wAt hts 1 (w := .fieldLink RX10 20 "FluxBenchModel" "thrown" "I") rfl) (fun _ h9 => h9) rfl (by decide +kernel) rfl rfl (Nat.le_of_ble_eq_true rfl) dX10_track_2 (fun H locs hP hD hS => ?_)
  have hP : va_P D vwCl [(h0, .inr (11, [.int (nI 0), .ref q, .int (nI 8), .int (nI 0), .int (nI 0), .int (nI 0), .int (nI 0), .long 0])), (q, .inr (1, [.int (nI 0), .ref z, .int (nI 0)]))] H := hP
  have hD : va_D A [(h0, .inr (11, [.int (nI 0), .ref q, .int (nI 8), .int (nI 0), .int (nI 0), .int (nI 0), .int (nI 0), .long 0])), (q, .inr (1, [.int (nI 0), .ref z, .int (nI 0)]))] := hD
  refine lv_iload_n hx hb dX10_track_5 rfl (lv_at hl 1 rfl) ?_
  refine lv_iconst (v := nI 0) hx hb dX10_track_6 (by decide) ?_
  refine lv_iconst (v := nI 2) hx hb dX10_track_7 (by decide) ?_
  have hF := va_free (wc := []) hD hS hA [] rfl
  refine va_calli (va_runS (As := [.int (nI n), .int (nI 0), .int (nI 2)]) (rest := []) ⟨hx, hb, hml, hown, hts⟩ (c_X10_is l D kA z (nI n) (nI 0) (nI 2)  _) (va_cwS 3 hts h_X10_track_ok_0 rfl rfl rfl (by decide +kernel) ⟨Nat.le_of_ble_eq_true rfl, Nat.le_of_ble_eq_true rfl⟩) (fPs hK hP hD hS hG hF [] (by decide) rfl) rfl rfl hl.1 rfl (lv_room (Nat.le_of_ble_eq_true rfl)) dX10_track_8 ⟨Nat.le_of_ble_eq_true rfl, Nat.le_of_ble_eq_true rfl⟩) hS (fun q _ h => hF q h) hF (fun r_1 w1 t H locs ht hvm hw hB hz1 hk1 hS => ?_)
  obtain ⟨hP, hD⟩ := fJ (wr := [(h0, .inr (11, [.int (nI 0), .ref q, .int (nI 8), .int (nI 0), .int (nI 0), .int (nI 0), .int (nI 0), .long 0])), (q, .inr (1, [.int (nI 0), .ref z, .int (nI 0)]))]) hP hD [] [0, 1] rfl rfl (by decide) (by decide) hk1 hF ht hB
  try dsimp only at hw
  obtain ⟨rfl, e_1⟩ := hw
  replace e_1 := e_1.symm
  subst e_1
  have hP : va_P D vwCl [(h0, .inr (11, [.int (nI 0), .ref q, .int (nI 8), .int (nI 0), .int (nI 0), .int (nI 0), .int (nI 0), .long 0])), (q, .inr (1, [.int (nI 0), .ref z, .int (nI 0)]))] H := hP
  have hD : va_D A [(h0, .inr (11, [.int (nI 0), .ref q, .int (nI 8), .int (nI 0), .int (nI 0), .int (nI 0), .int (nI 0), .long 0])), (q, .inr (1, [.int (nI 0), .ref z, .int (nI 0)]))] := hD
  rw [isY (Nat.zero_le _) h2 (by decide)]
  refine lv_if_ne (tgt := 20) hx hb dX10_track_11 (by decide) (fun _ => ?_) (fun c11 => absurd c11 (by decide))
  refine lv_aload_n hx hb dX10_track_20 rfl (lv_at hl 0 rfl) ?_
  refine va_get (D := D) (ci := 11) (v := .ref q) (C := RX10) (T := TX10) (N := 8) hx hb hts n_X10_track_ok_X10 hown hK hP 0 rfl rfl 1 (by decide) (wAt hts 5 (w := .fieldLink RX10 10 "FluxBenchModel" "tracks" "Ljava/util/ArrayList;") rfl) (fun _ h9 => h9) rfl dX10_track_21 ?_
  have hF := va_free (wc := [(q, .inr (1, [.int (nI 0), .ref z, .int (nI 0)]))]) hD hS hA [1] rfl
  refine va_calli (va_runV (As := []) (rest := []) ⟨hx, hb, hml, hown, hts⟩ (c_Jx4a65c_size_8abf5 l D kA z q z 0 (nI 0)  _) (cwV 0 hts h_X10_track_ok_1 rfl rfl rfl (by decide +kernel) ⟨Nat.le_of_ble_eq_true rfl, Nat.le_of_ble_eq_true rfl⟩) (fPv hK hP hD hS hG hF [1] (by decide) rfl 1 1 rfl rfl rfl) rfl rfl hl.1 rfl (lv_room (Nat.le_of_ble_eq_true rfl)) dX10_track_24 ⟨Nat.le_of_ble_eq_true rfl, Nat.le_of_ble_eq_true rfl⟩) hS (fun q _ h => hF q h) hF (fun r_2 w1 t H locs ht hvm hw hB hz1 hk1 hS => ?_)
  obtain ⟨hP, hD⟩ := fJ (wr := [(h0, .inr (11, [.int (nI 0), .ref q, .int (nI 8), .int (nI 0), .int (nI 0), .int (nI 0), .int (nI 0), .long 0]))]) hP hD [1] [0] rfl rfl (by decide) (by decide) hk1 hF ht hB
  try dsimp only at hw
  obtain ⟨rfl, e_2⟩ := hw
  replace e_2 := e_2.symm
  subst e_2
  have hP : va_P D vwCl [(h0, .inr (11, [.int (nI 0), .ref q, .int (nI 8), .int (nI 0), .int (nI 0), .int (nI 0), .int (nI 0), .long 0])), (q, .inr (1, [.int (nI 0), .ref z, .int (nI 0)]))] H := hP
  have hD : va_D A [(h0, .inr (11, [.int (nI 0), .ref q, .int (nI 8), .int (nI 0), .int (nI 0), .int (nI 0), .int (nI 0), .long 0])), (q, .inr (1, [.int (nI 0), .ref z, .int (nI 0)]))] := hD
  refine lv_iconst (v := nI 4) hx hb dX10_track_27 (by decide) ?_
  refine lv_icmp_ne (tgt := 37) hx hb dX10_track_28 (by decide) (fun _ => ?_) (fun c28 => absurd c28 (by decide))
  refine lv_aload_n hx hb dX10_track_37 rfl (lv_at hl 0 rfl) ?_
  refine va_get (D := D) (ci := 11) (v := .ref q) (C := RX10) (T := TX10) (N := 8) hx hb hts n_X10_track_ok_X10 hown hK hP 0 rfl rfl 1 (by decide) (wAt hts 5 (w := .fieldLink RX10 10 "FluxBenchModel" "tracks" "Ljava/util/ArrayList;") rfl) (fun _ h9 => h9) rfl dX10_track_38 ?_
  refine va_new (ci := 9) (fs := [.null, .int 0, .null, .null, .null, .null, .null, .int 0, .int 0, .null, .int 0]) (C := RX8) (T := TX8) (N := 11) hx hb hts n_X10_track_ok_X8 tyX8 tyX8_ok hown (wAt hts 10 (w := .classLink RX10 35 RX8) rfl) (wAt hts 11 (w := .instantiable RX8 11) rfl) (wAt hts 12 (w := .initialized RX8) rfl) hK hP hD hS hA rfl (fun j hj => by rcases j with _ | _ | _ | _ | _ | _ | _ | _ | _ | _ | _ | _ <;> first | rfl | omega) (Nat.le_of_ble_eq_true rfl) (Nat.le_of_ble_eq_true rfl) dX10_track_41 (fun q_1 H hP hD hS => ?_)
  have hP : va_P D vwCl [(h0, .inr (11, [.int (nI 0), .ref q, .int (nI 8), .int (nI 0), .int (nI 0), .int (nI 0), .int (nI 0), .long 0])), (q, .inr (1, [.int (nI 0), .ref z, .int (nI 0)])), (q_1, .inr (9, [.null, .int 0, .null, .null, .null, .null, .null, .int 0, .int 0, .null, .int 0]))] H := hP
  have hD : va_D A [(h0, .inr (11, [.int (nI 0), .ref q, .int (nI 8), .int (nI 0), .int (nI 0), .int (nI 0), .int (nI 0), .long 0])), (q, .inr (1, [.int (nI 0), .ref z, .int (nI 0)])), (q_1, .inr (9, [.null, .int 0, .null, .null, .null, .null, .null, .int 0, .int 0, .null, .int 0]))] := hD
  refine lv_dup hx hb dX10_track_44 rfl ?_
  refine lv_iload_n hx hb dX10_track_45 rfl (lv_at hl 1 rfl) ?_
  have hF := va_free (wc := [(q_1, .inr (9, [.null, .int 0, .null, .null, .null, .null, .null, .int 0, .int 0, .null, .int 0]))]) hD hS hA [2] rfl
  refine va_callv (va_runI (As := [.int (nI n)]) (rest := [.ref q_1, .ref q]) ⟨hx, hb, hml, hown, hts⟩ (c_X8_init l D kA z q_1 n  _) (cwI 1 hts h_X10_track_ok_2 rfl rfl rfl (wAt hts 12 (w := .initialized RX8) rfl) (wAt hts 13 (w := .methodLink RX10 37 yX8_init) rfl) (wAt hts 14 (w := .instanceMethod yX8_init) rfl) rfl (by decide +kernel) ⟨Nat.le_of_ble_eq_true rfl, Nat.le_of_ble_eq_true rfl⟩) (fPs hK hP hD hS hG hF [2] (by decide) rfl) rfl rfl hl.1 rfl (lv_room (Nat.le_of_ble_eq_true rfl)) dX10_track_46 ⟨Nat.le_of_ble_eq_true rfl, Nat.le_of_ble_eq_true rfl⟩) hS (fun q _ h => hF q h) hF (fun w1 t H locs ht hvm hw hB hz1 hk1 hS => ?_)
  obtain ⟨hP, hD⟩ := fJ (wr := [(h0, .inr (11, [.int (nI 0), .ref q, .int (nI 8), .int (nI 0), .int (nI 0), .int (nI 0), .int (nI 0), .long 0])), (q, .inr (1, [.int (nI 0), .ref z, .int (nI 0)]))]) hP hD [2] [0, 1] rfl rfl (by decide) (by decide) hk1 hF ht hB
  try dsimp only at hw
  obtain ⟨f_1, b_1, w_1, k_1, s_1, dr_1, tu_1, f_2, rfl⟩ := hw
  have hP : va_P D vwCl [(h0, .inr (11, [.int (nI 0), .ref q, .int (nI 8), .int (nI 0), .int (nI 0), .int (nI 0), .int (nI 0), .long 0])), (q, .inr (1, [.int (nI 0), .ref z, .int (nI 0)])), (q_1, .inr (9, [.ref f_1, .int (nI n), .ref b_1, .ref w_1, .ref k_1, .ref s_1, .ref dr_1, .int (nI 0), .int (nI 0), .ref tu_1, .int (nI 0)])), (f_1, .inl (kA 0, 16, .inl f_2)), (b_1, .inl (kA 0, 400, .inl (fun _ => 0))), (w_1, .inl (kA 0, 400, .inl (fun _ => 0))), (k_1, .inl (kA 1, 400, .inl (fun _ => 0))), (s_1, .inl (kA 0, 400, .inl (fun _ => 0))), (dr_1, .inl (kA 0, 400, .inl (fun _ => 0))), (tu_1, .inr (1, [.int (nI 0), .ref z, .int (nI 0)]))] H := hP
  have hD : va_D A [(h0, .inr (11, [.int (nI 0), .ref q, .int (nI 8), .int (nI 0), .int (nI 0), .int (nI 0), .int (nI 0), .long 0])), (q, .inr (1, [.int (nI 0), .ref z, .int (nI 0)])), (q_1, .inr (9, [.ref f_1, .int (nI n), .ref b_1, .ref w_1, .ref k_1, .ref s_1, .ref dr_1, .int (nI 0), .int (nI 0), .ref tu_1, .int (nI 0)])), (f_1, .inl (kA 0, 16, .inl f_2)), (b_1, .inl (kA 0, 400, .inl (fun _ => 0))), (w_1, .inl (kA 0, 400, .inl (fun _ => 0))), (k_1, .inl (kA 1, 400, .inl (fun _ => 0))), (s_1, .inl (kA 0, 400, .inl (fun _ => 0))), (dr_1, .inl (kA 0, 400, .inl (fun _ => 0))), (tu_1, .inr (1, [.int (nI 0), .ref z, .int (nI 0)]))] := hD
  have hF := va_free (wc := [(q, .inr (1, [.int (nI 0), .ref z, .int (nI 0)])), (q_1, .inr (9, [.ref f_1, .int (nI n), .ref b_1, .ref w_1, .ref k_1, .ref s_1, .ref dr_1, .int (nI 0), .int (nI 0), .ref tu_1, .int (nI 0)]))]) hD hS hA [1, 2] rfl
  refine va_calli (va_runV (As := [.ref q_1]) (rest := []) ⟨hx, hb, hml, hown, hts⟩ (c_Jx4a65c_add_9ea2d l D kA z q q_1 f_1 b_1 w_1 k_1 s_1 dr_1 tu_1 (nI n) (nI 0) (nI 0) (nI 0)  _) (cwV 1 hts h_X10_track_ok_3 rfl rfl rfl (by decide +kernel) ⟨Nat.le_of_ble_eq_true rfl, Nat.le_of_ble_eq_true rfl⟩) (fPv hK hP hD hS hG hF [1, 2] (by decide) rfl 1 1 rfl rfl rfl) rfl rfl hl.1 rfl (lv_room (Nat.le_of_ble_eq_true rfl)) dX10_track_49 ⟨Nat.le_of_ble_eq_true rfl, Nat.le_of_ble_eq_true rfl⟩) hS (fun q _ h => hF q h) hF (fun r_3 w1 t H locs ht hvm hw hB hz1 hk1 hS => ?_)
  obtain ⟨hP, hD⟩ := fJ (wr := [(h0, .inr (11, [.int (nI 0), .ref q, .int (nI 8), .int (nI 0), .int (nI 0), .int (nI 0), .int (nI 0), .long 0])), (f_1, .inl (kA 0, 16, .inl f_2)), (b_1, .inl (kA 0, 400, .inl (fun _ => 0))), (w_1, .inl (kA 0, 400, .inl (fun _ => 0))), (k_1, .inl (kA 1, 400, .inl (fun _ => 0))), (s_1, .inl (kA 0, 400, .inl (fun _ => 0))), (dr_1, .inl (kA 0, 400, .inl (fun _ => 0))), (tu_1, .inr (1, [.int (nI 0), .ref z, .int (nI 0)]))]) hP hD [1, 2] [0, 3, 4, 5, 6, 7, 8, 9] rfl rfl (by decide) (by decide) hk1 hF ht hB
  try dsimp only at hw
  obtain ⟨q_2, rfl⟩ := hw
  have hP : va_P D vwCl [(h0, .inr (11, [.int (nI 0), .ref q, .int (nI 8), .int (nI 0), .int (nI 0), .int (nI 0), .int (nI 0), .long 0])), (f_1, .inl (kA 0, 16, .inl f_2)), (b_1, .inl (kA 0, 400, .inl (fun _ => 0))), (w_1, .inl (kA 0, 400, .inl (fun _ => 0))), (k_1, .inl (kA 1, 400, .inl (fun _ => 0))), (s_1, .inl (kA 0, 400, .inl (fun _ => 0))), (dr_1, .inl (kA 0, 400, .inl (fun _ => 0))), (tu_1, .inr (1, [.int (nI 0), .ref z, .int (nI 0)])), (q, .inr (1, [.int (nI 1), .ref q_2, .int (nI 1)])), (q_2, .inl (kA 3, 10, .inr (.inr (.inr (.inr (va_up (fun _ => none) 0 (some q_1))))))), (q_1, .inr (9, [.ref f_1, .int (nI n), .ref b_1, .ref w_1, .ref k_1, .ref s_1, .ref dr_1, .int (nI 0), .int (nI 0), .ref tu_1, .int (nI 0)]))] H := hP
  have hD : va_D A [(h0, .inr (11, [.int (nI 0), .ref q, .int (nI 8), .int (nI 0), .int (nI 0), .int (nI 0), .int (nI 0), .long 0])), (f_1, .inl (kA 0, 16, .inl f_2)), (b_1, .inl (kA 0, 400, .inl (fun _ => 0))), (w_1, .inl (kA 0, 400, .inl (fun _ => 0))), (k_1, .inl (kA 1, 400, .inl (fun _ => 0))), (s_1, .inl (kA 0, 400, .inl (fun _ => 0))), (dr_1, .inl (kA 0, 400, .inl (fun _ => 0))), (tu_1, .inr (1, [.int (nI 0), .ref z, .int (nI 0)])), (q, .inr (1, [.int (nI 1), .ref q_2, .int (nI 1)])), (q_2, .inl (kA 3, 10, .inr (.inr (.inr (.inr (va_up (fun _ => none) 0 (some q_1))))))), (q_1, .inr (9, [.ref f_1, .int (nI n), .ref b_1, .ref w_1, .ref k_1, .ref s_1, .ref dr_1, .int (nI 0), .int (nI 0), .ref tu_1, .int (nI 0)]))] := hD
  refine lv_pop hx hb dX10_track_52 rfl ?_
  refine lv_aload_n hx hb dX10_track_53 rfl (lv_at hl 0 rfl) ?_
  refine va_get (D := D) (ci := 11) (v := .ref q) (C := RX10) (T := TX10) (N := 8) hx hb hts n_X10_track_ok_X10 hown hK hP 0 rfl rfl 1 (by decide) (wAt hts 5 (w := .fieldLink RX10 10 "FluxBenchModel" "tracks" "Ljava/util/ArrayList;") rfl) (fun _ h9 => h9) rfl dX10_track_54 ?_
  have hF := va_free (wc := [(q, .inr (1, [.int (nI 1), .ref q_2, .int (nI 1)]))]) hD hS hA [8] rfl
  refine va_calli (va_runV (As := []) (rest := []) ⟨hx, hb, hml, hown, hts⟩ (c_Jx4a65c_size_8abf5 l D kA z q q_2 1 (nI 1)  _) (cwV 0 hts h_X10_track_ok_1 rfl rfl rfl (by decide +kernel) ⟨Nat.le_of_ble_eq_true rfl, Nat.le_of_ble_eq_true rfl⟩) (fPv hK hP hD hS hG hF [8] (by decide) rfl 8 1 rfl rfl rfl) rfl rfl hl.1 rfl (lv_room (Nat.le_of_ble_eq_true rfl)) dX10_track_57 ⟨Nat.le_of_ble_eq_true rfl, Nat.le_of_ble_eq_true rfl⟩) hS (fun q _ h => hF q h) hF (fun r_4 w1 t H locs ht hvm hw hB hz1 hk1 hS => ?_)
  obtain ⟨hP, hD⟩ := fJ (wr := [(h0, .inr (11, [.int (nI 0), .ref q, .int (nI 8), .int (nI 0), .int (nI 0), .int (nI 0), .int (nI 0), .long 0])), (f_1, .inl (kA 0, 16, .inl f_2)), (b_1, .inl (kA 0, 400, .inl (fun _ => 0))), (w_1, .inl (kA 0, 400, .inl (fun _ => 0))), (k_1, .inl (kA 1, 400, .inl (fun _ => 0))), (s_1, .inl (kA 0, 400, .inl (fun _ => 0))), (dr_1, .inl (kA 0, 400, .inl (fun _ => 0))), (tu_1, .inr (1, [.int (nI 0), .ref z, .int (nI 0)])), (q_2, .inl (kA 3, 10, .inr (.inr (.inr (.inr (va_up (fun _ => none) 0 (some q_1))))))), (q_1, .inr (9, [.ref f_1, .int (nI n), .ref b_1, .ref w_1, .ref k_1, .ref s_1, .ref dr_1, .int (nI 0), .int (nI 0), .ref tu_1, .int (nI 0)]))]) hP hD [8] [0, 1, 2, 3, 4, 5, 6, 7, 9, 10] rfl rfl (by decide) (by decide) hk1 hF ht hB
  try dsimp only at hw
  obtain ⟨rfl, e_3⟩ := hw
  replace e_3 := e_3.symm
  subst e_3
  have hP : va_P D vwCl [(h0, .inr (11, [.int (nI 0), .ref q, .int (nI 8), .int (nI 0), .int (nI 0), .int (nI 0), .int (nI 0), .long 0])), (f_1, .inl (kA 0, 16, .inl f_2)), (b_1, .inl (kA 0, 400, .inl (fun _ => 0))), (w_1, .inl (kA 0, 400, .inl (fun _ => 0))), (k_1, .inl (kA 1, 400, .inl (fun _ => 0))), (s_1, .inl (kA 0, 400, .inl (fun _ => 0))), (dr_1, .inl (kA 0, 400, .inl (fun _ => 0))), (tu_1, .inr (1, [.int (nI 0), .ref z, .int (nI 0)])), (q_2, .inl (kA 3, 10, .inr (.inr (.inr (.inr (va_up (fun _ => none) 0 (some q_1))))))), (q_1, .inr (9, [.ref f_1, .int (nI n), .ref b_1, .ref w_1, .ref k_1, .ref s_1, .ref dr_1, .int (nI 0), .int (nI 0), .ref tu_1, .int (nI 0)])), (q, .inr (1, [.int (nI 1), .ref q_2, .int (nI 1)]))] H := hP
  have hD : va_D A [(h0, .inr (11, [.int (nI 0), .ref q, .int (nI 8), .int (nI 0), .int (nI 0), .int (nI 0), .int (nI 0), .long 0])), (f_1, .inl (kA 0, 16, .inl f_2)), (b_1, .inl (kA 0, 400, .inl (fun _ => 0))), (w_1, .inl (kA 0, 400, .inl (fun _ => 0))), (k_1, .inl (kA 1, 400, .inl (fun _ => 0))), (s_1, .inl (kA 0, 400, .inl (fun _ => 0))), (dr_1, .inl (kA 0, 400, .inl (fun _ => 0))), (tu_1, .inr (1, [.int (nI 0), .ref z, .int (nI 0)])), (q_2, .inl (kA 3, 10, .inr (.inr (.inr (.inr (va_up (fun _ => none) 0 (some q_1))))))), (q_1, .inr (9, [.ref f_1, .int (nI n), .ref b_1, .ref w_1, .ref k_1, .ref s_1, .ref dr_1, .int (nI 0), .int (nI 0), .ref tu_1, .int (nI 0)])), (q, .inr (1, [.int (nI 1), .ref q_2, .int (nI 1)]))] := hD
  refine lv_iconst (v := nI 1) hx hb dX10_track_60 (by decide) ?_
  refine lv_isub hx hb dX10_track_61 ?_
  rw [show nI 1 - nI 1 = nI 0 from by decide]
  have hP := hP.sub (ws' := [(h0, .inr (11, [.int (nI 0), .ref q, .int (nI 8), .int (nI 0), .int (nI 0), .int (nI 0), .int (nI 0), .long 0])), (q, .inr (1, [.int (nI 1), .ref q_2, .int (nI 1)])), (q_2, .inl (kA 3, 10, .inr (.inr (.inr (.inr (va_up (fun _ => none) 0 (some q_1))))))), (q_1, .inr (9, [.ref f_1, .int (nI n), .ref b_1, .ref w_1, .ref k_1, .ref s_1, .ref dr_1, .int (nI 0), .int (nI 0), .ref tu_1, .int (nI 0)])), (f_1, .inl (kA 0, 16, .inl f_2)), (b_1, .inl (kA 0, 400, .inl (fun _ => 0))), (w_1, .inl (kA 0, 400, .inl (fun _ => 0))), (k_1, .inl (kA 1, 400, .inl (fun _ => 0))), (s_1, .inl (kA 0, 400, .inl (fun _ => 0))), (dr_1, .inl (kA 0, 400, .inl (fun _ => 0))), (tu_1, .inr (1, [.int (nI 0), .ref z, .int (nI 0)]))]) [0, 10, 8, 9, 1, 2, 3, 4, 5, 6, 7] rfl
  have hD := hD.sub (ws' := [(h0, .inr (11, [.int (nI 0), .ref q, .int (nI 8), .int (nI 0), .int (nI 0), .int (nI 0), .int (nI 0), .long 0])), (q, .inr (1, [.int (nI 1), .ref q_2, .int (nI 1)])), (q_2, .inl (kA 3, 10, .inr (.inr (.inr (.inr (va_up (fun _ => none) 0 (some q_1))))))), (q_1, .inr (9, [.ref f_1, .int (nI n), .ref b_1, .ref w_1, .ref k_1, .ref s_1, .ref dr_1, .int (nI 0), .int (nI 0), .ref tu_1, .int (nI 0)])), (f_1, .inl (kA 0, 16, .inl f_2)), (b_1, .inl (kA 0, 400, .inl (fun _ => 0))), (w_1, .inl (kA 0, 400, .inl (fun _ => 0))), (k_1, .inl (kA 1, 400, .inl (fun _ => 0))), (s_1, .inl (kA 0, 400, .inl (fun _ => 0))), (dr_1, .inl (kA 0, 400, .inl (fun _ => 0))), (tu_1, .inr (1, [.int (nI 0), .ref z, .int (nI 0)]))]) [0, 10, 8, 9, 1, 2, 3, 4, 5, 6, 7] (by decide) rfl
  exact endI hx hb hr hlocks hK hP hD hS (⟨q_2, q_1, f_1, b_1, w_1, k_1, s_1, dr_1, tu_1, f_2, rfl, by first | rfl | assumption | omega | (rw [if_pos (by omega)]; first | done | rfl) | (rw [if_neg (by omega)]; first | done | rfl)⟩) (Nat.le_of_ble_eq_true rfl) (Nat.le_of_ble_eq_true rfl) dX10_track_62

def wq_X10_track_no : List Cond := .code yX10_track cX10_track 2 (some .int) :: (([.fieldLink RX10 20 "FluxBenchModel" "thrown" "I", .methodLink RX10 27 yX10_is, .static yX10_is, .initialized RX10, .methodLink RX10 31 yX10_refuse, .instanceMethod yX10_refuse, .selects RX10 yX10_refuse yX10_refuse] : List Cond) ++ (u_ws RX10 TX10 8 ++ (wq_X10_is ++ (wq_X10_refuse ++ ([] : List Cond)))))
theorem gd_X10_track_no : wq_X10_track_no.all goodWord = true := by decide +kernel
theorem n_X10_track_no_X10 : ∀ w ∈ u_ws RX10 TX10 8, w ∈ wq_X10_track_no := fun w h => List.mem_cons_of_mem _ (List.mem_append_right _ (List.mem_append_left _ h))
theorem h_X10_track_no_0 : GoodIn wq_X10_track_no (va_wsS RX10 27 yX10_is wq_X10_is) := goodIn_app (goodIn_r _ [2, 3, 4] (by decide +kernel) (by decide +kernel)) (goodIn_sub (fun w h => List.mem_cons_of_mem _ (List.mem_append_right _ (List.mem_append_right _ (List.mem_append_left _ h)))) gd_X10_is)
theorem h_X10_track_no_1 : GoodIn wq_X10_track_no (wsV RX10 31 RX10 yX10_refuse wq_X10_refuse) := goodIn_app (goodIn_r _ [5, 6, 7, 4] (by decide +kernel) (by decide +kernel)) (goodIn_sub (fun w h => List.mem_cons_of_mem _ (List.mem_append_right _ (List.mem_append_right _ (List.mem_append_right _ (List.mem_append_left _ h))))) gd_X10_refuse)
set_option maxHeartbeats 4000000 in
set_option maxRecDepth 100000 in
theorem c_X10_track_no (l : Launch) (D : va_G) (kA : Nat → ClassId) (z : Nat) (h0 q : Nat) (th x : Int32) (hxx : ∀ n : Nat, n ≤ 2 → x ≠ nI n) : mI l D (tyL kA) z yX10_track wq_X10_track_no ({ frames := 1, cells := 0, slots := 0, locals := 40 }) [.ref h0, .int x] [(h0, .inr (11, [.int th, .ref q, .int (nI 8), .int (nI 0), .int (nI 0), .int (nI 0), .int (nI 0), .long 0])), (q, .inr (1, [.int (nI 0), .ref z, .int (nI 0)]))] (fun r w => w = [(h0, .inr (11, [.int (nI 1), .ref q, .int (nI 8), .int (nI 0), .int (nI 0), .int (nI 0), .int (nI 0), .long 0])), (q, .inr (1, [.int (nI 0), .ref z, .int (nI 0)]))]) := by
  refine ofI (cc := cX10_track) (maxL := 2) RX10 rfl (by decide +kernel) rfl (Nat.le_of_ble_eq_true rfl) ?_
  intro p e s m args below meth c A ls hE
  obtain ⟨hx, hb, hr, hml, hts, hown, hlocks, hA, hS, hP, hK, hD, hG, hl⟩ := hE
  have hl : lv_has ls 2 [(0, .ref h0), (1, .int x)] := hl
  have hH : s.heap = s.heap := rfl
  refine lv_aload_n hx hb dX10_track_0 rfl (lv_at hl 0 rfl) ?_
  refine lv_iconst (v := nI 0) hx hb dX10_track_1 (by decide) ?_
  refine va_put (D := D) (ci := 11) (v := .int (nI 0)) (ty := .int) (C := RX10) (T := TX10) (N := 8) hx hb hts n_X10_track_no_X10 tyX10 tyX10_ok nmX10 hown hK hP hD hS 0 rfl rfl 0 (by decide) (wAt hts 1 (w := .fieldLink RX10 20 "FluxBenchModel" "thrown" "I") rfl) (fun _ h9 => h9) rfl (by decide +kernel) rfl rfl (Nat.le_of_ble_eq_true rfl) dX10_track_2 (fun H locs hP hD hS => ?_)
  have hP : va_P D vwCl [(h0, .inr (11, [.int (nI 0), .ref q, .int (nI 8), .int (nI 0), .int (nI 0), .int (nI 0), .int (nI 0), .long 0])), (q, .inr (1, [.int (nI 0), .ref z, .int (nI 0)]))] H := hP
  have hD : va_D A [(h0, .inr (11, [.int (nI 0), .ref q, .int (nI 8), .int (nI 0), .int (nI 0), .int (nI 0), .int (nI 0), .long 0])), (q, .inr (1, [.int (nI 0), .ref z, .int (nI 0)]))] := hD
  refine lv_iload_n hx hb dX10_track_5 rfl (lv_at hl 1 rfl) ?_
  refine lv_iconst (v := nI 0) hx hb dX10_track_6 (by decide) ?_
  refine lv_iconst (v := nI 2) hx hb dX10_track_7 (by decide) ?_
  have hF := va_free (wc := []) hD hS hA [] rfl
  refine va_calli (va_runS (As := [.int x, .int (nI 0), .int (nI 2)]) (rest := []) ⟨hx, hb, hml, hown, hts⟩ (c_X10_is l D kA z x (nI 0) (nI 2)  _) (va_cwS 3 hts h_X10_track_no_0 rfl rfl rfl (by decide +kernel) ⟨Nat.le_of_ble_eq_true rfl, Nat.le_of_ble_eq_true rfl⟩) (fPs hK hP hD hS hG hF [] (by decide) rfl) rfl rfl hl.1 rfl (lv_room (Nat.le_of_ble_eq_true rfl)) dX10_track_8 ⟨Nat.le_of_ble_eq_true rfl, Nat.le_of_ble_eq_true rfl⟩) hS (fun q _ h => hF q h) hF (fun r_1 w1 t H locs ht hvm hw hB hz1 hk1 hS => ?_)
  obtain ⟨hP, hD⟩ := fJ (wr := [(h0, .inr (11, [.int (nI 0), .ref q, .int (nI 8), .int (nI 0), .int (nI 0), .int (nI 0), .int (nI 0), .long 0])), (q, .inr (1, [.int (nI 0), .ref z, .int (nI 0)]))]) hP hD [] [0, 1] rfl rfl (by decide) (by decide) hk1 hF ht hB
  try dsimp only at hw
  obtain ⟨rfl, e_1⟩ := hw
  replace e_1 := e_1.symm
  subst e_1
  have hP : va_P D vwCl [(h0, .inr (11, [.int (nI 0), .ref q, .int (nI 8), .int (nI 0), .int (nI 0), .int (nI 0), .int (nI 0), .long 0])), (q, .inr (1, [.int (nI 0), .ref z, .int (nI 0)]))] H := hP
  have hD : va_D A [(h0, .inr (11, [.int (nI 0), .ref q, .int (nI 8), .int (nI 0), .int (nI 0), .int (nI 0), .int (nI 0), .long 0])), (q, .inr (1, [.int (nI 0), .ref z, .int (nI 0)]))] := hD
  rw [isN (by decide) (by decide) (fun n _ h => hxx n h)]
  refine lv_if_ne (tgt := 20) hx hb dX10_track_11 (by decide) (fun c11 => absurd (by decide) c11) (fun _ => ?_)
  refine lv_aload_n hx hb dX10_track_14 rfl (lv_at hl 0 rfl) ?_
  refine lv_iconst (v := nI 1) hx hb dX10_track_15 (by decide) ?_
  have hF := va_free (wc := [(h0, .inr (11, [.int (nI 0), .ref q, .int (nI 8), .int (nI 0), .int (nI 0), .int (nI 0), .int (nI 0), .long 0]))]) hD hS hA [0] rfl
  refine va_calli (va_runV (As := [.int (nI 1)]) (rest := []) ⟨hx, hb, hml, hown, hts⟩ (c_X10_refuse l D kA z h0 q (nI 1) (nI 0) (nI 8) (nI 0) (nI 0) (nI 0) (nI 0) 0  _) (cwV 1 hts h_X10_track_no_1 rfl rfl rfl (by decide +kernel) ⟨Nat.le_of_ble_eq_true rfl, Nat.le_of_ble_eq_true rfl⟩) (fPv hK hP hD hS hG hF [0] (by decide) rfl 0 11 rfl rfl rfl) rfl rfl hl.1 rfl (lv_room (Nat.le_of_ble_eq_true rfl)) dX10_track_16 ⟨Nat.le_of_ble_eq_true rfl, Nat.le_of_ble_eq_true rfl⟩) hS (fun q _ h => hF q h) hF (fun r_2 w1 t H locs ht hvm hw hB hz1 hk1 hS => ?_)
  obtain ⟨hP, hD⟩ := fJ (wr := [(q, .inr (1, [.int (nI 0), .ref z, .int (nI 0)]))]) hP hD [0] [1] rfl rfl (by decide) (by decide) hk1 hF ht hB
  try dsimp only at hw
  obtain ⟨rfl, e_2⟩ := hw
  replace e_2 := e_2.symm
  subst e_2
  have hP : va_P D vwCl [(q, .inr (1, [.int (nI 0), .ref z, .int (nI 0)])), (h0, .inr (11, [.int (nI 1), .ref q, .int (nI 8), .int (nI 0), .int (nI 0), .int (nI 0), .int (nI 0), .long 0]))] H := hP
  have hD : va_D A [(q, .inr (1, [.int (nI 0), .ref z, .int (nI 0)])), (h0, .inr (11, [.int (nI 1), .ref q, .int (nI 8), .int (nI 0), .int (nI 0), .int (nI 0), .int (nI 0), .long 0]))] := hD
  have hP := hP.sub (ws' := [(h0, .inr (11, [.int (nI 1), .ref q, .int (nI 8), .int (nI 0), .int (nI 0), .int (nI 0), .int (nI 0), .long 0])), (q, .inr (1, [.int (nI 0), .ref z, .int (nI 0)]))]) [1, 0] rfl
  have hD := hD.sub (ws' := [(h0, .inr (11, [.int (nI 1), .ref q, .int (nI 8), .int (nI 0), .int (nI 0), .int (nI 0), .int (nI 0), .long 0])), (q, .inr (1, [.int (nI 0), .ref z, .int (nI 0)]))]) [1, 0] (by decide) rfl
  exact endI hx hb hr hlocks hK hP hD hS (rfl) (Nat.le_of_ble_eq_true rfl) (Nat.le_of_ble_eq_true rfl) dX10_track_19

def wq_Jx35411_init_45d68 : List Cond := .code yJx35411_init_45d68 cJx35411_init_45d68 2 none :: (([.fieldLink RJx35411 1 "java/util/ArrayList$Itr" "this$0" "Ljava/util/ArrayList;", .methodLink RJx35411 7 objectInit, .instanceMethod objectInit, .code objectInit ⟨#[0xb1]⟩ 1 none, .fieldLink RJx35411 13 "java/util/ArrayList$Itr" "lastRet" "I", .fieldLink RJx35411 17 "java/util/ArrayList" "modCount" "I", .sameField "java/util/ArrayList" "java/util/AbstractList" "modCount" "I", .fieldLink RJx35411 22 "java/util/ArrayList$Itr" "expectedModCount" "I"] : List Cond) ++ (u_ws RJx35411 TJx35411 4 ++ (u_ws RJx4a65c TJx4a65c 3 ++ ([] : List Cond))))
theorem gd_Jx35411_init_45d68 : wq_Jx35411_init_45d68.all goodWord = true := by decide +kernel
theorem n_Jx35411_init_45d68_Jx35411 : ∀ w ∈ u_ws RJx35411 TJx35411 4, w ∈ wq_Jx35411_init_45d68 := fun w h => List.mem_cons_of_mem _ (List.mem_append_right _ (List.mem_append_left _ h))
theorem n_Jx35411_init_45d68_Jx4a65c : ∀ w ∈ u_ws RJx4a65c TJx4a65c 3, w ∈ wq_Jx35411_init_45d68 := fun w h => List.mem_cons_of_mem _ (List.mem_append_right _ (List.mem_append_right _ (List.mem_append_left _ h)))
set_option maxHeartbeats 4000000 in
set_option maxRecDepth 100000 in
theorem c_Jx35411_init_45d68 (l : Launch) (D : va_G) (kA : Nat → ClassId) (z : Nat) (i h0 mc ed sz : Nat)  : mV l D (tyL kA) z yJx35411_init_45d68 wq_Jx35411_init_45d68 ({ frames := 1, cells := 0, slots := 0, locals := 12 }) [.ref i, .ref h0] [(i, .inr (0, [.int 0, .int 0, .int 0, .null])), (h0, .inr (1, [.int (nI mc), .ref ed, .int (nI sz)]))] (fun w => w = [(i, .inr (0, [.int (nI 0), .int (-1), .int (nI mc), .ref h0])), (h0, .inr (1, [.int (nI mc), .ref ed, .int (nI sz)]))]) := by
  refine ofV (cc := cJx35411_init_45d68) (maxL := 2) RJx35411 rfl (by decide +kernel) rfl (Nat.le_of_ble_eq_true rfl) ?_
  intro p e s m args below meth c A ls hnm hE
  obtain ⟨hx, hb, hr, hml, hts, hown, hlocks, hA, hS, hP, hK, hD, hG, hl⟩ := hE
  have hl : lv_has ls 2 [(0, .ref i), (1, .ref h0)] := hl
  have hH : s.heap = s.heap := rfl
  refine lv_aload_n hx hb dJx35411_init_45d68_0 rfl (lv_at hl 0 rfl) ?_
  refine lv_aload_n hx hb dJx35411_init_45d68_1 rfl (lv_at hl 1 rfl) ?_
  refine va_putF (D := D) (ci := 0) (v := .ref h0) (ty := (tyJx35411 3)) (C := RJx35411) (T := TJx35411) (N := 4) hx hb hts n_Jx35411_init_45d68_Jx35411 tyJx35411 tyJx35411_ok nmJx35411 hown hK hP hD hS 0 rfl rfl 3 (by decide) (wAt hts 1 (w := .fieldLink RJx35411 1 "java/util/ArrayList$Itr" "this$0" "Ljava/util/ArrayList;") rfl) (fun _ h9 => h9) rfl hnm rfl (by decide +kernel) rfl rfl (Nat.le_of_ble_eq_true rfl) dJx35411_init_45d68_2 (fun H locs hP hD hS => ?_)
  have hP : va_P D vwCl [(i, .inr (0, [.int 0, .int 0, .int 0, .ref h0])), (h0, .inr (1, [.int (nI mc), .ref ed, .int (nI sz)]))] H := hP
  have hD : va_D A [(i, .inr (0, [.int 0, .int 0, .int 0, .ref h0])), (h0, .inr (1, [.int (nI mc), .ref ed, .int (nI sz)]))] := hD
  refine lv_aload_n hx hb dJx35411_init_45d68_5 rfl (lv_at hl 0 rfl) ?_
  refine W.objInit hx hb hown (wAt hts 2 (w := .methodLink RJx35411 7 objectInit) rfl) (wAt hts 3 (w := .instanceMethod objectInit) rfl) (wAt hts 4 (w := .code objectInit ⟨#[0xb1]⟩ 1 none) rfl) rfl (by rw [hml]; exact hl.1) rfl dJx35411_init_45d68_6 (Nat.le_of_ble_eq_true rfl) (Nat.le_of_ble_eq_true rfl) ?_
  refine W.eq (g2 := F0 m 9 ls []) rfl ?_
  refine lv_aload_n hx hb dJx35411_init_45d68_9 rfl (lv_at hl 0 rfl) ?_
  refine lv_iconst (v := -1) hx hb dJx35411_init_45d68_10 (by decide) ?_
  refine va_put (D := D) (ci := 0) (v := .int (-1)) (ty := .int) (C := RJx35411) (T := TJx35411) (N := 4) hx hb hts n_Jx35411_init_45d68_Jx35411 tyJx35411 tyJx35411_ok nmJx35411 hown hK hP hD hS 0 rfl rfl 1 (by decide) (wAt hts 5 (w := .fieldLink RJx35411 13 "java/util/ArrayList$Itr" "lastRet" "I") rfl) (fun _ h9 => h9) rfl (by decide +kernel) rfl rfl (Nat.le_of_ble_eq_true rfl) dJx35411_init_45d68_11 (fun H locs hP hD hS => ?_)
  have hP : va_P D vwCl [(i, .inr (0, [.int 0, .int (-1), .int 0, .ref h0])), (h0, .inr (1, [.int (nI mc), .ref ed, .int (nI sz)]))] H := hP
  have hD : va_D A [(i, .inr (0, [.int 0, .int (-1), .int 0, .ref h0])), (h0, .inr (1, [.int (nI mc), .ref ed, .int (nI sz)]))] := hD
  refine lv_aload_n hx hb dJx35411_init_45d68_14 rfl (lv_at hl 0 rfl) ?_
  refine lv_aload_n hx hb dJx35411_init_45d68_15 rfl (lv_at hl 0 rfl) ?_
  refine va_get (D := D) (ci := 0) (v := .ref h0) (C := RJx35411) (T := TJx35411) (N := 4) hx hb hts n_Jx35411_init_45d68_Jx35411 hown hK hP 0 rfl rfl 3 (by decide) (wAt hts 1 (w := .fieldLink RJx35411 1 "java/util/ArrayList$Itr" "this$0" "Ljava/util/ArrayList;") rfl) (fun _ h9 => h9) rfl dJx35411_init_45d68_16 ?_
  refine va_get (D := D) (ci := 1) (v := .int (nI mc)) (C := RJx4a65c) (T := TJx4a65c) (N := 3) hx hb hts n_Jx35411_init_45d68_Jx4a65c hown hK hP 1 rfl rfl 0 (by decide) (wAt hts 6 (w := .fieldLink RJx35411 17 "java/util/ArrayList" "modCount" "I") rfl) (fun x9 h9 => u_same (wAt hts 7 (w := .sameField "java/util/ArrayList" "java/util/AbstractList" "modCount" "I") rfl) x9 h9) rfl dJx35411_init_45d68_19 ?_
  refine va_put (D := D) (ci := 0) (v := .int (nI mc)) (ty := .int) (C := RJx35411) (T := TJx35411) (N := 4) hx hb hts n_Jx35411_init_45d68_Jx35411 tyJx35411 tyJx35411_ok nmJx35411 hown hK hP hD hS 0 rfl rfl 2 (by decide) (wAt hts 8 (w := .fieldLink RJx35411 22 "java/util/ArrayList$Itr" "expectedModCount" "I") rfl) (fun _ h9 => h9) rfl (by decide +kernel) rfl rfl (Nat.le_of_ble_eq_true rfl) dJx35411_init_45d68_22 (fun H locs hP hD hS => ?_)
  have hP : va_P D vwCl [(i, .inr (0, [.int 0, .int (-1), .int (nI mc), .ref h0])), (h0, .inr (1, [.int (nI mc), .ref ed, .int (nI sz)]))] H := hP
  have hD : va_D A [(i, .inr (0, [.int 0, .int (-1), .int (nI mc), .ref h0])), (h0, .inr (1, [.int (nI mc), .ref ed, .int (nI sz)]))] := hD
  exact endV hx hb hr hlocks hK hP hD hS (rfl) (Nat.le_of_ble_eq_true rfl) (Nat.le_of_ble_eq_true rfl) dJx35411_init_45d68_25

def wq_Jx4a65c_iterator_32c93 : List Cond := .code yJx4a65c_iterator_32c93 cJx4a65c_iterator_32c93 1 (some (.object "java/util/Iterator")) :: (([.classLink RJx4a65c 267 RJx35411, .instantiable RJx35411 4, .initialized RJx35411, .methodLink RJx4a65c 269 yJx35411_init_45d68, .instanceMethod yJx35411_init_45d68] : List Cond) ++ (u_ws RJx35411 TJx35411 4 ++ (wq_Jx35411_init_45d68 ++ ([] : List Cond))))
theorem gd_Jx4a65c_iterator_32c93 : wq_Jx4a65c_iterator_32c93.all goodWord = true := by decide +kernel
theorem n_Jx4a65c_iterator_32c93_Jx35411 : ∀ w ∈ u_ws RJx35411 TJx35411 4, w ∈ wq_Jx4a65c_iterator_32c93 := fun w h => List.mem_cons_of_mem _ (List.mem_append_right _ (List.mem_append_left _ h))
theorem h_Jx4a65c_iterator_32c93_0 : GoodIn wq_Jx4a65c_iterator_32c93 (wq_Jx35411_init_45d68) := goodIn_sub (fun w h => List.mem_cons_of_mem _ (List.mem_append_right _ (List.mem_append_right _ (List.mem_append_left _ h)))) gd_Jx35411_init_45d68
set_option maxHeartbeats 4000000 in
set_option maxRecDepth 100000 in
theorem c_Jx4a65c_iterator_32c93 (l : Launch) (D : va_G) (kA : Nat → ClassId) (z : Nat) (h0 mc ed sz : Nat)  : mR l D (tyL kA) z yJx4a65c_iterator_32c93 wq_Jx4a65c_iterator_32c93 ({ frames := 2, cells := 1, slots := 4, locals := 35 }) [.ref h0] [(h0, .inr (1, [.int (nI mc), .ref ed, .int (nI sz)]))] (fun r w => w = [(h0, .inr (1, [.int (nI mc), .ref ed, .int (nI sz)])), (r, .inr (0, [.int (nI 0), .int (-1), .int (nI mc), .ref h0]))]) := by
  refine ofR (cc := cJx4a65c_iterator_32c93) (maxL := 1) RJx4a65c rfl (by decide +kernel) rfl (Nat.le_of_ble_eq_true rfl) ?_
  intro p e s m args below meth c A ls hE
  obtain ⟨hx, hb, hr, hml, hts, hown, hlocks, hA, hS, hP, hK, hD, hG, hl⟩ := hE
  have hl : lv_has ls 1 [(0, .ref h0)] := hl
  have hH : s.heap = s.heap := rfl
  refine va_new (ci := 0) (fs := [.int 0, .int 0, .int 0, .null]) (C := RJx35411) (T := TJx35411) (N := 4) hx hb hts n_Jx4a65c_iterator_32c93_Jx35411 tyJx35411 tyJx35411_ok hown (wAt hts 1 (w := .classLink RJx4a65c 267 RJx35411) rfl) (wAt hts 2 (w := .instantiable RJx35411 4) rfl) (wAt hts 3 (w := .initialized RJx35411) rfl) hK hP hD hS hA rfl (fun j hj => by rcases j with _ | _ | _ | _ | _ <;> first | rfl | omega) (Nat.le_of_ble_eq_true rfl) (Nat.le_of_ble_eq_true rfl) dJx4a65c_iterator_32c93_0 (fun q_1 H hP hD hS => ?_)
  have hP : va_P D vwCl [(h0, .inr (1, [.int (nI mc), .ref ed, .int (nI sz)])), (q_1, .inr (0, [.int 0, .int 0, .int 0, .null]))] H := hP
  have hD : va_D A [(h0, .inr (1, [.int (nI mc), .ref ed, .int (nI sz)])), (q_1, .inr (0, [.int 0, .int 0, .int 0, .null]))] := hD
  refine lv_dup hx hb dJx4a65c_iterator_32c93_3 rfl ?_
  refine lv_aload_n hx hb dJx4a65c_iterator_32c93_4 rfl (lv_at hl 0 rfl) ?_
  have hF := va_free (wc := [(q_1, .inr (0, [.int 0, .int 0, .int 0, .null])), (h0, .inr (1, [.int (nI mc), .ref ed, .int (nI sz)]))]) hD hS hA [1, 0] rfl
  refine va_callv (va_runI (As := [.ref h0]) (rest := [.ref q_1]) ⟨hx, hb, hml, hown, hts⟩ (c_Jx35411_init_45d68 l D kA z q_1 h0 mc ed sz  _) (cwI 1 hts h_Jx4a65c_iterator_32c93_0 rfl rfl rfl (wAt hts 3 (w := .initialized RJx35411) rfl) (wAt hts 4 (w := .methodLink RJx4a65c 269 yJx35411_init_45d68) rfl) (wAt hts 5 (w := .instanceMethod yJx35411_init_45d68) rfl) rfl (by decide +kernel) ⟨Nat.le_of_ble_eq_true rfl, Nat.le_of_ble_eq_true rfl⟩) (fPs hK hP hD hS hG hF [1, 0] (by decide) rfl) rfl rfl hl.1 rfl (lv_room (Nat.le_of_ble_eq_true rfl)) dJx4a65c_iterator_32c93_5 ⟨Nat.le_of_ble_eq_true rfl, Nat.le_of_ble_eq_true rfl⟩) hS (fun q _ h => hF q h) hF (fun w1 t H locs ht hvm hw hB hz1 hk1 hS => ?_)
  obtain ⟨hP, hD⟩ := fJ (wr := []) hP hD [1, 0] [] rfl rfl (by decide) (by decide) hk1 hF ht hB
  try dsimp only at hw
  subst hw
  have hP : va_P D vwCl [(q_1, .inr (0, [.int (nI 0), .int (-1), .int (nI mc), .ref h0])), (h0, .inr (1, [.int (nI mc), .ref ed, .int (nI sz)]))] H := hP
  have hD : va_D A [(q_1, .inr (0, [.int (nI 0), .int (-1), .int (nI mc), .ref h0])), (h0, .inr (1, [.int (nI mc), .ref ed, .int (nI sz)]))] := hD
  have hP := hP.sub (ws' := [(h0, .inr (1, [.int (nI mc), .ref ed, .int (nI sz)])), (q_1, .inr (0, [.int (nI 0), .int (-1), .int (nI mc), .ref h0]))]) [1, 0] rfl
  have hD := hD.sub (ws' := [(h0, .inr (1, [.int (nI mc), .ref ed, .int (nI sz)])), (q_1, .inr (0, [.int (nI 0), .int (-1), .int (nI mc), .ref h0]))]) [1, 0] (by decide) rfl
  exact endR (post := fun r w => w = [(h0, .inr (1, [.int (nI mc), .ref ed, .int (nI sz)])), (r, .inr (0, [.int (nI 0), .int (-1), .int (nI mc), .ref h0]))]) hx hb hr (Or.inl ⟨_, rfl⟩) hlocks hK hP hD hS (rfl) (Nat.le_of_ble_eq_true rfl) (Nat.le_of_ble_eq_true rfl) dJx4a65c_iterator_32c93_8

def wq_Jx35411_hasNext_aae02_no : List Cond := .code yJx35411_hasNext_aae02 cJx35411_hasNext_aae02 1 (some .boolean) :: (([.fieldLink RJx35411 25 "java/util/ArrayList$Itr" "cursor" "I", .fieldLink RJx35411 1 "java/util/ArrayList$Itr" "this$0" "Ljava/util/ArrayList;"] : List Cond) ++ (u_ws RJx35411 TJx35411 4 ++ (u_ws RJx4a65c TJx4a65c 3 ++ ([] : List Cond))))
theorem gd_Jx35411_hasNext_aae02_no : wq_Jx35411_hasNext_aae02_no.all goodWord = true := by decide +kernel
theorem n_Jx35411_hasNext_aae02_no_Jx35411 : ∀ w ∈ u_ws RJx35411 TJx35411 4, w ∈ wq_Jx35411_hasNext_aae02_no := fun w h => List.mem_cons_of_mem _ (List.mem_append_right _ (List.mem_append_left _ h))
theorem n_Jx35411_hasNext_aae02_no_Jx4a65c : ∀ w ∈ u_ws RJx4a65c TJx4a65c 3, w ∈ wq_Jx35411_hasNext_aae02_no := fun w h => List.mem_cons_of_mem _ (List.mem_append_right _ (List.mem_append_right _ (List.mem_append_left _ h)))
set_option maxHeartbeats 4000000 in
set_option maxRecDepth 100000 in
theorem c_Jx35411_hasNext_aae02_no (l : Launch) (D : va_G) (kA : Nat → ClassId) (z : Nat) (h0 cu mc li ed sz : Nat) (lr : Int32) (hb1 : cu < 2 ^ 31) (hb2 : sz < 2 ^ 31) (h : cu = sz) : mI l D (tyL kA) z yJx35411_hasNext_aae02 wq_Jx35411_hasNext_aae02_no ({ frames := 0, cells := 0, slots := 0, locals := 0 }) [.ref h0] [(h0, .inr (0, [.int (nI cu), .int lr, .int (nI mc), .ref li])), (li, .inr (1, [.int (nI mc), .ref ed, .int (nI sz)]))] (fun r w => w = [(h0, .inr (0, [.int (nI cu), .int lr, .int (nI mc), .ref li])), (li, .inr (1, [.int (nI mc), .ref ed, .int (nI sz)]))] ∧ r = nI 0) := by
  refine ofI (cc := cJx35411_hasNext_aae02) (maxL := 1) RJx35411 rfl (by decide +kernel) rfl (Nat.le_of_ble_eq_true rfl) ?_
  intro p e s m args below meth c A ls hE
  obtain ⟨hx, hb, hr, hml, hts, hown, hlocks, hA, hS, hP, hK, hD, hG, hl⟩ := hE
  have hl : lv_has ls 1 [(0, .ref h0)] := hl
  have hH : s.heap = s.heap := rfl
  refine lv_aload_n hx hb dJx35411_hasNext_aae02_0 rfl (lv_at hl 0 rfl) ?_
  refine va_get (D := D) (ci := 0) (v := .int (nI cu)) (C := RJx35411) (T := TJx35411) (N := 4) hx hb hts n_Jx35411_hasNext_aae02_no_Jx35411 hown hK hP 0 rfl rfl 0 (by decide) (wAt hts 1 (w := .fieldLink RJx35411 25 "java/util/ArrayList$Itr" "cursor" "I") rfl) (fun _ h9 => h9) rfl dJx35411_hasNext_aae02_1 ?_
  refine lv_aload_n hx hb dJx35411_hasNext_aae02_4 rfl (lv_at hl 0 rfl) ?_
  refine va_get (D := D) (ci := 0) (v := .ref li) (C := RJx35411) (T := TJx35411) (N := 4) hx hb hts n_Jx35411_hasNext_aae02_no_Jx35411 hown hK hP 0 rfl rfl 3 (by decide) (wAt hts 2 (w := .fieldLink RJx35411 1 "java/util/ArrayList$Itr" "this$0" "Ljava/util/ArrayList;") rfl) (fun _ h9 => h9) rfl dJx35411_hasNext_aae02_5 ?_
  refine va_getN (D := D) (ci := 1) (v := .int (nI sz)) (C := RJx4a65c) (T := TJx4a65c) (N := 3) hx hb hts n_Jx35411_hasNext_aae02_no_Jx4a65c hown hK hP 1 rfl rfl 2 (by decide) (va_Nw.use rfl (hG.2.2.2.1.2.1 _ (List.mem_of_getElem? (i := 25) rfl))) (fun _ h9 => h9) rfl dJx35411_hasNext_aae02_8 ?_
  refine lv_icmp_eq (tgt := 18) hx hb dJx35411_hasNext_aae02_11 (by decide) (fun _ => ?_) (fun c11 => False.elim (by rw [qeq (a := cu) (b := sz) (by omega) (by omega)] at c11; omega))
  refine lv_iconst (v := nI 0) hx hb dJx35411_hasNext_aae02_18 (by decide) ?_
  exact endZ hx hb hr hlocks (rfl) hK hP hD hS (⟨rfl, by first | rfl | assumption | omega | (rw [if_pos (by omega)]; first | done | rfl) | (rw [if_neg (by omega)]; first | done | rfl)⟩) (Nat.le_of_ble_eq_true rfl) (Nat.le_of_ble_eq_true rfl) dJx35411_hasNext_aae02_19

def wq_Jx35411_hasNext_aae02_yes : List Cond := .code yJx35411_hasNext_aae02 cJx35411_hasNext_aae02 1 (some .boolean) :: (([.fieldLink RJx35411 25 "java/util/ArrayList$Itr" "cursor" "I", .fieldLink RJx35411 1 "java/util/ArrayList$Itr" "this$0" "Ljava/util/ArrayList;"] : List Cond) ++ (u_ws RJx35411 TJx35411 4 ++ (u_ws RJx4a65c TJx4a65c 3 ++ ([] : List Cond))))
theorem gd_Jx35411_hasNext_aae02_yes : wq_Jx35411_hasNext_aae02_yes.all goodWord = true := by decide +kernel
theorem n_Jx35411_hasNext_aae02_yes_Jx35411 : ∀ w ∈ u_ws RJx35411 TJx35411 4, w ∈ wq_Jx35411_hasNext_aae02_yes := fun w h => List.mem_cons_of_mem _ (List.mem_append_right _ (List.mem_append_left _ h))
theorem n_Jx35411_hasNext_aae02_yes_Jx4a65c : ∀ w ∈ u_ws RJx4a65c TJx4a65c 3, w ∈ wq_Jx35411_hasNext_aae02_yes := fun w h => List.mem_cons_of_mem _ (List.mem_append_right _ (List.mem_append_right _ (List.mem_append_left _ h)))
set_option maxHeartbeats 4000000 in
set_option maxRecDepth 100000 in
theorem c_Jx35411_hasNext_aae02_yes (l : Launch) (D : va_G) (kA : Nat → ClassId) (z : Nat) (h0 cu mc li ed sz : Nat) (lr : Int32) (hb1 : cu < 2 ^ 31) (hb2 : sz < 2 ^ 31) (h : cu ≠ sz) : mI l D (tyL kA) z yJx35411_hasNext_aae02 wq_Jx35411_hasNext_aae02_yes ({ frames := 0, cells := 0, slots := 0, locals := 0 }) [.ref h0] [(h0, .inr (0, [.int (nI cu), .int lr, .int (nI mc), .ref li])), (li, .inr (1, [.int (nI mc), .ref ed, .int (nI sz)]))] (fun r w => w = [(h0, .inr (0, [.int (nI cu), .int lr, .int (nI mc), .ref li])), (li, .inr (1, [.int (nI mc), .ref ed, .int (nI sz)]))] ∧ r = nI 1) := by
  refine ofI (cc := cJx35411_hasNext_aae02) (maxL := 1) RJx35411 rfl (by decide +kernel) rfl (Nat.le_of_ble_eq_true rfl) ?_
  intro p e s m args below meth c A ls hE
  obtain ⟨hx, hb, hr, hml, hts, hown, hlocks, hA, hS, hP, hK, hD, hG, hl⟩ := hE
  have hl : lv_has ls 1 [(0, .ref h0)] := hl
  have hH : s.heap = s.heap := rfl
  refine lv_aload_n hx hb dJx35411_hasNext_aae02_0 rfl (lv_at hl 0 rfl) ?_
  refine va_get (D := D) (ci := 0) (v := .int (nI cu)) (C := RJx35411) (T := TJx35411) (N := 4) hx hb hts n_Jx35411_hasNext_aae02_yes_Jx35411 hown hK hP 0 rfl rfl 0 (by decide) (wAt hts 1 (w := .fieldLink RJx35411 25 "java/util/ArrayList$Itr" "cursor" "I") rfl) (fun _ h9 => h9) rfl dJx35411_hasNext_aae02_1 ?_
  refine lv_aload_n hx hb dJx35411_hasNext_aae02_4 rfl (lv_at hl 0 rfl) ?_
  refine va_get (D := D) (ci := 0) (v := .ref li) (C := RJx35411) (T := TJx35411) (N := 4) hx hb hts n_Jx35411_hasNext_aae02_yes_Jx35411 hown hK hP 0 rfl rfl 3 (by decide) (wAt hts 2 (w := .fieldLink RJx35411 1 "java/util/ArrayList$Itr" "this$0" "Ljava/util/ArrayList;") rfl) (fun _ h9 => h9) rfl dJx35411_hasNext_aae02_5 ?_
  refine va_getN (D := D) (ci := 1) (v := .int (nI sz)) (C := RJx4a65c) (T := TJx4a65c) (N := 3) hx hb hts n_Jx35411_hasNext_aae02_yes_Jx4a65c hown hK hP 1 rfl rfl 2 (by decide) (va_Nw.use rfl (hG.2.2.2.1.2.1 _ (List.mem_of_getElem? (i := 25) rfl))) (fun _ h9 => h9) rfl dJx35411_hasNext_aae02_8 ?_
  refine lv_icmp_eq (tgt := 18) hx hb dJx35411_hasNext_aae02_11 (by decide) (fun c11 => False.elim (by rw [qeq (a := cu) (b := sz) (by omega) (by omega)] at c11; omega)) (fun _ => ?_)
  refine lv_iconst (v := nI 1) hx hb dJx35411_hasNext_aae02_14 (by decide) ?_
  refine lv_goto (tgt := 19) hx hb dJx35411_hasNext_aae02_15 (by decide) ?_
  exact endZ hx hb hr hlocks (rfl) hK hP hD hS (⟨rfl, by first | rfl | assumption | omega | (rw [if_pos (by omega)]; first | done | rfl) | (rw [if_neg (by omega)]; first | done | rfl)⟩) (Nat.le_of_ble_eq_true rfl) (Nat.le_of_ble_eq_true rfl) dJx35411_hasNext_aae02_19

def wq_X10_manyNow_e : List Cond := .code yX10_manyNow cX10_manyNow 5 (some .int) :: (([.fieldLink RX10 10 "FluxBenchModel" "tracks" "Ljava/util/ArrayList;", .methodLink RX10 154 yJx4a65c_iterator_32c93, .instanceMethod yJx4a65c_iterator_32c93, .selects RJx4a65c yJx4a65c_iterator_32c93 yJx4a65c_iterator_32c93, .initialized RJx4a65c, .methodLink RX10 158 ⟨"java/util/Iterator", "hasNext", "()Z"⟩, .selects RJx35411 ⟨"java/util/Iterator", "hasNext", "()Z"⟩ yJx35411_hasNext_aae02, .instanceMethod yJx35411_hasNext_aae02, .initialized RJx35411, .arrayClass .int, .methodLink RX10 23 yJx4a65c_size_8abf5, .instanceMethod yJx4a65c_size_8abf5, .selects RJx4a65c yJx4a65c_size_8abf5 yJx4a65c_size_8abf5, .fieldLink RX10 16 "FluxBenchModel" "speed" "I", .fieldLink RX10 95 "FluxBenchModel" "draw" "I", .fieldLink RX10 120 "FluxBenchModel" "reads" "I", .fieldLink RX10 147 "FluxBenchModel" "plain" "I", .fieldLink RX10 144 "FluxBenchModel" "raw" "I"] : List Cond) ++ (u_ws RX10 TX10 8 ++ (wq_Jx4a65c_iterator_32c93 ++ (wq_Jx35411_hasNext_aae02_no ++ (wq_Jx4a65c_size_8abf5 ++ ([] : List Cond))))))
theorem gd_X10_manyNow_e : wq_X10_manyNow_e.all goodWord = true := by decide +kernel
theorem n_X10_manyNow_e_X10 : ∀ w ∈ u_ws RX10 TX10 8, w ∈ wq_X10_manyNow_e := fun w h => List.mem_cons_of_mem _ (List.mem_append_right _ (List.mem_append_left _ h))
theorem h_X10_manyNow_e_0 : GoodIn wq_X10_manyNow_e (wsV RX10 154 RJx4a65c yJx4a65c_iterator_32c93 wq_Jx4a65c_iterator_32c93) := goodIn_app (goodIn_r _ [2, 3, 4, 5] (by decide +kernel) (by decide +kernel)) (goodIn_sub (fun w h => List.mem_cons_of_mem _ (List.mem_append_right _ (List.mem_append_right _ (List.mem_append_left _ h)))) gd_Jx4a65c_iterator_32c93)
theorem h_X10_manyNow_e_1 : GoodIn wq_X10_manyNow_e (va_wsF RX10 158 RJx35411 ⟨"java/util/Iterator", "hasNext", "()Z"⟩ yJx35411_hasNext_aae02 wq_Jx35411_hasNext_aae02_no) := goodIn_app (goodIn_r _ [6, 7, 8, 9] (by decide +kernel) (by decide +kernel)) (goodIn_sub (fun w h => List.mem_cons_of_mem _ (List.mem_append_right _ (List.mem_append_right _ (List.mem_append_right _ (List.mem_append_left _ h))))) gd_Jx35411_hasNext_aae02_no)
theorem h_X10_manyNow_e_2 : GoodIn wq_X10_manyNow_e (wsV RX10 23 RJx4a65c yJx4a65c_size_8abf5 wq_Jx4a65c_size_8abf5) := goodIn_app (goodIn_r _ [11, 12, 13, 5] (by decide +kernel) (by decide +kernel)) (goodIn_sub (fun w h => List.mem_cons_of_mem _ (List.mem_append_right _ (List.mem_append_right _ (List.mem_append_right _ (List.mem_append_right _ (List.mem_append_left _ h)))))) gd_Jx4a65c_size_8abf5)
set_option maxHeartbeats 4000000 in
set_option maxRecDepth 100000 in
theorem c_X10_manyNow_e (l : Launch) (D : va_G) (kA : Nat → ClassId) (z : Nat) (h0 q n : Nat) (th : Int32) (sm : Int64) (hn : n ≤ 6) : mI l D (tyL kA) z yX10_manyNow wq_X10_manyNow_e ({ frames := 3, cells := 2, slots := 11, locals := 80 }) [.ref h0, .int (nI n)] [(h0, .inr (11, [.int th, .ref q, .int (nI 8), .int (nI 0), .int (nI 0), .int (nI 0), .int (nI 0), .long sm])), (q, .inr (1, [.int (nI 0), .ref z, .int (nI 0)]))] (fun r w => w = [(h0, .inr (11, [.int th, .ref q, .int (nI 8), .int (nI 0), .int (nI 0), .int (nI 0), .int (nI 0), .long sm])), (q, .inr (1, [.int (nI 0), .ref z, .int (nI 0)]))] ∧ r = nI ([0, 8, 0, 0, 0, 0, 0].getD n 0)) := by
  refine ofI (cc := cX10_manyNow) (maxL := 5) RX10 rfl (by decide +kernel) rfl (Nat.le_of_ble_eq_true rfl) ?_
  intro p e s m args below meth c A ls hE
  obtain ⟨hx, hb, hr, hml, hts, hown, hlocks, hA, hS, hP, hK, hD, hG, hl⟩ := hE
  have hl : lv_has ls 5 [(0, .ref h0), (1, .int (nI n))] := hl
  have hH : s.heap = s.heap := rfl
  refine lv_iconst (v := nI 0) hx hb dX10_manyNow_0 (by decide) ?_
  refine lv_istore_n (lv' := [(2, .int (nI 0)), (0, .ref h0), (1, .int (nI n))]) hx hb dX10_manyNow_1 rfl hl (by decide) rfl (fun ls hl => ?_)
  refine lv_aload_n hx hb dX10_manyNow_2 rfl (lv_at hl 1 rfl) ?_
  refine va_get (D := D) (ci := 11) (v := .ref q) (C := RX10) (T := TX10) (N := 8) hx hb hts n_X10_manyNow_e_X10 hown hK hP 0 rfl rfl 1 (by decide) (wAt hts 1 (w := .fieldLink RX10 10 "FluxBenchModel" "tracks" "Ljava/util/ArrayList;") rfl) (fun _ h9 => h9) rfl dX10_manyNow_3 ?_
  have hF := va_free (wc := [(q, .inr (1, [.int (nI 0), .ref z, .int (nI 0)]))]) hD hS hA [1] rfl
  refine va_callr (va_runV (As := []) (rest := []) ⟨hx, hb, hml, hown, hts⟩ (c_Jx4a65c_iterator_32c93 l D kA z q 0 z 0  _) (cwV 0 hts h_X10_manyNow_e_0 rfl rfl rfl (by decide +kernel) ⟨Nat.le_of_ble_eq_true rfl, Nat.le_of_ble_eq_true rfl⟩) (fPv hK hP hD hS hG hF [1] (by decide) rfl 1 1 rfl rfl rfl) rfl rfl hl.1 rfl (lv_room (Nat.le_of_ble_eq_true rfl)) dX10_manyNow_6 ⟨Nat.le_of_ble_eq_true rfl, Nat.le_of_ble_eq_true rfl⟩) hS (fun q _ h => hF q h) hF (fun u1 ra9 t H locs ht hvm hw hB hz1 hk1 hS => ?_)
  obtain ⟨ra_1, w1⟩ := u1
  obtain ⟨e0, hB⟩ := hB
  have e0 : ra_1 = ra9 := e0
  subst e0
  obtain ⟨hP, hD⟩ := fJ (wr := [(h0, .inr (11, [.int th, .ref q, .int (nI 8), .int (nI 0), .int (nI 0), .int (nI 0), .int (nI 0), .long sm]))]) hP hD [1] [0] rfl rfl (by decide) (by decide) hk1 hF ht hB
  try dsimp only at hw
  subst hw
  have hP : va_P D vwCl [(h0, .inr (11, [.int th, .ref q, .int (nI 8), .int (nI 0), .int (nI 0), .int (nI 0), .int (nI 0), .long sm])), (q, .inr (1, [.int (nI 0), .ref z, .int (nI 0)])), (ra_1, .inr (0, [.int (nI 0), .int (-1), .int (nI 0), .ref q]))] H := hP
  have hD : va_D A [(h0, .inr (11, [.int th, .ref q, .int (nI 8), .int (nI 0), .int (nI 0), .int (nI 0), .int (nI 0), .long sm])), (q, .inr (1, [.int (nI 0), .ref z, .int (nI 0)])), (ra_1, .inr (0, [.int (nI 0), .int (-1), .int (nI 0), .ref q]))] := hD
  refine lv_astore_n (lv' := [(3, .ref ra_1), (2, .int (nI 0)), (0, .ref h0), (1, .int (nI n))]) hx hb dX10_manyNow_9 rfl hl (by decide) rfl (fun ls hl => ?_)
  refine lv_aload_n hx hb dX10_manyNow_10 rfl (lv_at hl 0 rfl) ?_
  have hF := va_free (wc := [(ra_1, .inr (0, [.int (nI 0), .int (-1), .int (nI 0), .ref q])), (q, .inr (1, [.int (nI 0), .ref z, .int (nI 0)]))]) hD hS hA [2, 1] rfl
  refine va_callFi (va_runF (hK.1 0 _ rfl).2 (As := []) (rest := []) ⟨hx, hb, hml, hown, hts⟩ (c_Jx35411_hasNext_aae02_no l D kA z ra_1 0 0 q z 0 (-1) (by decide) (by decide) rfl _) (va_cwF 0 hts h_X10_manyNow_e_1 rfl rfl rfl hG.2.2.2.2.2.2.1 (by decide +kernel) ⟨Nat.le_of_ble_eq_true rfl, Nat.le_of_ble_eq_true rfl⟩) (fPv hK hP hD hS hG hF [2, 1] (by decide) rfl 2 0 rfl rfl rfl) rfl rfl hl.1 rfl (lv_room (Nat.le_of_ble_eq_true rfl)) dX10_manyNow_11 ⟨Nat.le_of_ble_eq_true rfl, Nat.le_of_ble_eq_true rfl⟩) hS (fun q _ h => hF q h) hF (fun r_1 w1 t H locs ht hvm hw hB hz1 hk1 hS => ?_)
  obtain ⟨hP, hD⟩ := fJ (wr := [(h0, .inr (11, [.int th, .ref q, .int (nI 8), .int (nI 0), .int (nI 0), .int (nI 0), .int (nI 0), .long sm]))]) hP hD [2, 1] [0] rfl rfl (by decide) (by decide) hk1 hF ht hB
  try dsimp only at hw
  obtain ⟨rfl, e_1⟩ := hw
  replace e_1 := e_1.symm
  subst e_1
  have hP : va_P D vwCl [(h0, .inr (11, [.int th, .ref q, .int (nI 8), .int (nI 0), .int (nI 0), .int (nI 0), .int (nI 0), .long sm])), (ra_1, .inr (0, [.int (nI 0), .int (-1), .int (nI 0), .ref q])), (q, .inr (1, [.int (nI 0), .ref z, .int (nI 0)]))] H := hP
  have hD : va_D A [(h0, .inr (11, [.int th, .ref q, .int (nI 8), .int (nI 0), .int (nI 0), .int (nI 0), .int (nI 0), .long sm])), (ra_1, .inr (0, [.int (nI 0), .int (-1), .int (nI 0), .ref q])), (q, .inr (1, [.int (nI 0), .ref z, .int (nI 0)]))] := hD
  refine lv_if_eq (tgt := 42) hx hb dX10_manyNow_16 (by decide) (fun _ => ?_) (fun c16 => absurd (by decide) c16)
  refine lv_bipush (v := nI 7) hx hb dX10_manyNow_42 (by decide) ?_
  refine va_newa (atype := .int) (ty := .int) (N' := 7) (a0 := (7, .inl (fun _ => 0))) hx hb (wAt hts 10 (w := .arrayClass .int) rfl) rfl hK hP hD hS hA (fun _ => rfl) (nI_pos (n := 7) (by decide)) (nI_clamp (n := 7) (by decide)) (by decide) (Nat.le_of_ble_eq_true rfl) (Nat.le_of_ble_eq_true rfl) dX10_manyNow_44 (fun q_1 cA H hK hP hD hS => ?_)
  obtain rfl : cA = kA 0 := tyEq hK 6 0 rfl rfl
  have hK : va_K D vwCl (tyL kA) s := hK.sub [0, 1, 2, 3, 4, 5] rfl
  have hP : va_P D vwCl [(h0, .inr (11, [.int th, .ref q, .int (nI 8), .int (nI 0), .int (nI 0), .int (nI 0), .int (nI 0), .long sm])), (ra_1, .inr (0, [.int (nI 0), .int (-1), .int (nI 0), .ref q])), (q, .inr (1, [.int (nI 0), .ref z, .int (nI 0)])), (q_1, .inl (kA 0, 7, .inl (fun _ => 0)))] H := hP
  have hD : va_D A [(h0, .inr (11, [.int th, .ref q, .int (nI 8), .int (nI 0), .int (nI 0), .int (nI 0), .int (nI 0), .long sm])), (ra_1, .inr (0, [.int (nI 0), .int (-1), .int (nI 0), .ref q])), (q, .inr (1, [.int (nI 0), .ref z, .int (nI 0)])), (q_1, .inl (kA 0, 7, .inl (fun _ => 0)))] := hD
  refine lv_dup hx hb dX10_manyNow_46 rfl ?_
  refine lv_iconst (v := nI 0) hx hb dX10_manyNow_47 (by decide) ?_
  refine lv_aload_n hx hb dX10_manyNow_48 rfl (lv_at hl 2 rfl) ?_
  refine va_get (D := D) (ci := 11) (v := .ref q) (C := RX10) (T := TX10) (N := 8) hx hb hts n_X10_manyNow_e_X10 hown hK hP 0 rfl rfl 1 (by decide) (wAt hts 1 (w := .fieldLink RX10 10 "FluxBenchModel" "tracks" "Ljava/util/ArrayList;") rfl) (fun _ h9 => h9) rfl dX10_manyNow_49 ?_
  have hF := va_free (wc := [(q, .inr (1, [.int (nI 0), .ref z, .int (nI 0)]))]) hD hS hA [2] rfl
  refine va_calli (va_runV (As := []) (rest := [.int (nI 0), .ref q_1, .ref q_1]) ⟨hx, hb, hml, hown, hts⟩ (c_Jx4a65c_size_8abf5 l D kA z q z 0 (nI 0)  _) (cwV 0 hts h_X10_manyNow_e_2 rfl rfl rfl (by decide +kernel) ⟨Nat.le_of_ble_eq_true rfl, Nat.le_of_ble_eq_true rfl⟩) (fPv hK hP hD hS hG hF [2] (by decide) rfl 2 1 rfl rfl rfl) rfl rfl hl.1 rfl (lv_room (Nat.le_of_ble_eq_true rfl)) dX10_manyNow_52 ⟨Nat.le_of_ble_eq_true rfl, Nat.le_of_ble_eq_true rfl⟩) hS (fun q _ h => hF q h) hF (fun r_2 w1 t H locs ht hvm hw hB hz1 hk1 hS => ?_)
  obtain ⟨hP, hD⟩ := fJ (wr := [(h0, .inr (11, [.int th, .ref q, .int (nI 8), .int (nI 0), .int (nI 0), .int (nI 0), .int (nI 0), .long sm])), (ra_1, .inr (0, [.int (nI 0), .int (-1), .int (nI 0), .ref q])), (q_1, .inl (kA 0, 7, .inl (fun _ => 0)))]) hP hD [2] [0, 1, 3] rfl rfl (by decide) (by decide) hk1 hF ht hB
  try dsimp only at hw
  obtain ⟨rfl, e_2⟩ := hw
  replace e_2 := e_2.symm
  subst e_2
  have hP : va_P D vwCl [(h0, .inr (11, [.int th, .ref q, .int (nI 8), .int (nI 0), .int (nI 0), .int (nI 0), .int (nI 0), .long sm])), (ra_1, .inr (0, [.int (nI 0), .int (-1), .int (nI 0), .ref q])), (q_1, .inl (kA 0, 7, .inl (fun _ => 0))), (q, .inr (1, [.int (nI 0), .ref z, .int (nI 0)]))] H := hP
  have hD : va_D A [(h0, .inr (11, [.int th, .ref q, .int (nI 8), .int (nI 0), .int (nI 0), .int (nI 0), .int (nI 0), .long sm])), (ra_1, .inr (0, [.int (nI 0), .int (-1), .int (nI 0), .ref q])), (q_1, .inl (kA 0, 7, .inl (fun _ => 0))), (q, .inr (1, [.int (nI 0), .ref z, .int (nI 0)]))] := hD
  refine va_iast hx hb hK hP hD hS 2 0 rfl rfl (vp_in_nI (n := 0) (by omega) (by decide)) dX10_manyNow_55 (fun H locs hP hD hS => ?_)
  rw [nI_clamp (n := 0) (by omega)] at hP hD
  have hP : va_P D vwCl [(h0, .inr (11, [.int th, .ref q, .int (nI 8), .int (nI 0), .int (nI 0), .int (nI 0), .int (nI 0), .long sm])), (ra_1, .inr (0, [.int (nI 0), .int (-1), .int (nI 0), .ref q])), (q_1, .inl (kA 0, 7, .inl (upd (fun _ => 0) 0 (nI 0)))), (q, .inr (1, [.int (nI 0), .ref z, .int (nI 0)]))] H := hP
  have hD : va_D A [(h0, .inr (11, [.int th, .ref q, .int (nI 8), .int (nI 0), .int (nI 0), .int (nI 0), .int (nI 0), .long sm])), (ra_1, .inr (0, [.int (nI 0), .int (-1), .int (nI 0), .ref q])), (q_1, .inl (kA 0, 7, .inl (upd (fun _ => 0) 0 (nI 0)))), (q, .inr (1, [.int (nI 0), .ref z, .int (nI 0)]))] := hD
  refine lv_dup hx hb dX10_manyNow_56 rfl ?_
  refine lv_iconst (v := nI 1) hx hb dX10_manyNow_57 (by decide) ?_
  refine lv_aload_n hx hb dX10_manyNow_58 rfl (lv_at hl 2 rfl) ?_
  refine va_get (D := D) (ci := 11) (v := .int (nI 8)) (C := RX10) (T := TX10) (N := 8) hx hb hts n_X10_manyNow_e_X10 hown hK hP 0 rfl rfl 2 (by decide) (wAt hts 14 (w := .fieldLink RX10 16 "FluxBenchModel" "speed" "I") rfl) (fun _ h9 => h9) rfl dX10_manyNow_59 ?_
  refine va_iast hx hb hK hP hD hS 2 0 rfl rfl (vp_in_nI (n := 1) (by omega) (by decide)) dX10_manyNow_62 (fun H locs hP hD hS => ?_)
  rw [nI_clamp (n := 1) (by omega)] at hP hD
  have hP : va_P D vwCl [(h0, .inr (11, [.int th, .ref q, .int (nI 8), .int (nI 0), .int (nI 0), .int (nI 0), .int (nI 0), .long sm])), (ra_1, .inr (0, [.int (nI 0), .int (-1), .int (nI 0), .ref q])), (q_1, .inl (kA 0, 7, .inl (upd (upd (fun _ => 0) 0 (nI 0)) 1 (nI 8)))), (q, .inr (1, [.int (nI 0), .ref z, .int (nI 0)]))] H := hP
  have hD : va_D A [(h0, .inr (11, [.int th, .ref q, .int (nI 8), .int (nI 0), .int (nI 0), .int (nI 0), .int (nI 0), .long sm])), (ra_1, .inr (0, [.int (nI 0), .int (-1), .int (nI 0), .ref q])), (q_1, .inl (kA 0, 7, .inl (upd (upd (fun _ => 0) 0 (nI 0)) 1 (nI 8)))), (q, .inr (1, [.int (nI 0), .ref z, .int (nI 0)]))] := hD
  refine lv_dup hx hb dX10_manyNow_63 rfl ?_
  refine lv_iconst (v := nI 2) hx hb dX10_manyNow_64 (by decide) ?_
  refine lv_aload_n hx hb dX10_manyNow_65 rfl (lv_at hl 2 rfl) ?_
  refine va_get (D := D) (ci := 11) (v := .int (nI 0)) (C := RX10) (T := TX10) (N := 8) hx hb hts n_X10_manyNow_e_X10 hown hK hP 0 rfl rfl 3 (by decide) (wAt hts 15 (w := .fieldLink RX10 95 "FluxBenchModel" "draw" "I") rfl) (fun _ h9 => h9) rfl dX10_manyNow_66 ?_
  refine va_iast hx hb hK hP hD hS 2 0 rfl rfl (vp_in_nI (n := 2) (by omega) (by decide)) dX10_manyNow_69 (fun H locs hP hD hS => ?_)
  rw [nI_clamp (n := 2) (by omega)] at hP hD
  have hP : va_P D vwCl [(h0, .inr (11, [.int th, .ref q, .int (nI 8), .int (nI 0), .int (nI 0), .int (nI 0), .int (nI 0), .long sm])), (ra_1, .inr (0, [.int (nI 0), .int (-1), .int (nI 0), .ref q])), (q_1, .inl (kA 0, 7, .inl (upd (upd (upd (fun _ => 0) 0 (nI 0)) 1 (nI 8)) 2 (nI 0)))), (q, .inr (1, [.int (nI 0), .ref z, .int (nI 0)]))] H := hP
  have hD : va_D A [(h0, .inr (11, [.int th, .ref q, .int (nI 8), .int (nI 0), .int (nI 0), .int (nI 0), .int (nI 0), .long sm])), (ra_1, .inr (0, [.int (nI 0), .int (-1), .int (nI 0), .ref q])), (q_1, .inl (kA 0, 7, .inl (upd (upd (upd (fun _ => 0) 0 (nI 0)) 1 (nI 8)) 2 (nI 0)))), (q, .inr (1, [.int (nI 0), .ref z, .int (nI 0)]))] := hD
  refine lv_dup hx hb dX10_manyNow_70 rfl ?_
  refine lv_iconst (v := nI 3) hx hb dX10_manyNow_71 (by decide) ?_
  refine lv_aload_n hx hb dX10_manyNow_72 rfl (lv_at hl 2 rfl) ?_
  refine va_get (D := D) (ci := 11) (v := .int (nI 0)) (C := RX10) (T := TX10) (N := 8) hx hb hts n_X10_manyNow_e_X10 hown hK hP 0 rfl rfl 4 (by decide) (wAt hts 16 (w := .fieldLink RX10 120 "FluxBenchModel" "reads" "I") rfl) (fun _ h9 => h9) rfl dX10_manyNow_73 ?_
  refine va_iast hx hb hK hP hD hS 2 0 rfl rfl (vp_in_nI (n := 3) (by omega) (by decide)) dX10_manyNow_76 (fun H locs hP hD hS => ?_)
  rw [nI_clamp (n := 3) (by omega)] at hP hD
  have hP : va_P D vwCl [(h0, .inr (11, [.int th, .ref q, .int (nI 8), .int (nI 0), .int (nI 0), .int (nI 0), .int (nI 0), .long sm])), (ra_1, .inr (0, [.int (nI 0), .int (-1), .int (nI 0), .ref q])), (q_1, .inl (kA 0, 7, .inl (upd (upd (upd (upd (fun _ => 0) 0 (nI 0)) 1 (nI 8)) 2 (nI 0)) 3 (nI 0)))), (q, .inr (1, [.int (nI 0), .ref z, .int (nI 0)]))] H := hP
  have hD : va_D A [(h0, .inr (11, [.int th, .ref q, .int (nI 8), .int (nI 0), .int (nI 0), .int (nI 0), .int (nI 0), .long sm])), (ra_1, .inr (0, [.int (nI 0), .int (-1), .int (nI 0), .ref q])), (q_1, .inl (kA 0, 7, .inl (upd (upd (upd (upd (fun _ => 0) 0 (nI 0)) 1 (nI 8)) 2 (nI 0)) 3 (nI 0)))), (q, .inr (1, [.int (nI 0), .ref z, .int (nI 0)]))] := hD
  refine lv_dup hx hb dX10_manyNow_77 rfl ?_
  refine lv_iconst (v := nI 4) hx hb dX10_manyNow_78 (by decide) ?_
  refine lv_iload_n hx hb dX10_manyNow_79 rfl (lv_at hl 1 rfl) ?_
  refine va_iast hx hb hK hP hD hS 2 0 rfl rfl (vp_in_nI (n := 4) (by omega) (by decide)) dX10_manyNow_80 (fun H locs hP hD hS => ?_)
  rw [nI_clamp (n := 4) (by omega)] at hP hD
  have hP : va_P D vwCl [(h0, .inr (11, [.int th, .ref q, .int (nI 8), .int (nI 0), .int (nI 0), .int (nI 0), .int (nI 0), .long sm])), (ra_1, .inr (0, [.int (nI 0), .int (-1), .int (nI 0), .ref q])), (q_1, .inl (kA 0, 7, .inl (upd (upd (upd (upd (upd (fun _ => 0) 0 (nI 0)) 1 (nI 8)) 2 (nI 0)) 3 (nI 0)) 4 (nI 0)))), (q, .inr (1, [.int (nI 0), .ref z, .int (nI 0)]))] H := hP
  have hD : va_D A [(h0, .inr (11, [.int th, .ref q, .int (nI 8), .int (nI 0), .int (nI 0), .int (nI 0), .int (nI 0), .long sm])), (ra_1, .inr (0, [.int (nI 0), .int (-1), .int (nI 0), .ref q])), (q_1, .inl (kA 0, 7, .inl (upd (upd (upd (upd (upd (fun _ => 0) 0 (nI 0)) 1 (nI 8)) 2 (nI 0)) 3 (nI 0)) 4 (nI 0)))), (q, .inr (1, [.int (nI 0), .ref z, .int (nI 0)]))] := hD
  refine lv_dup hx hb dX10_manyNow_81 rfl ?_
  refine lv_iconst (v := nI 5) hx hb dX10_manyNow_82 (by decide) ?_
  refine lv_aload_n hx hb dX10_manyNow_83 rfl (lv_at hl 2 rfl) ?_
  refine va_get (D := D) (ci := 11) (v := .int (nI 0)) (C := RX10) (T := TX10) (N := 8) hx hb hts n_X10_manyNow_e_X10 hown hK hP 0 rfl rfl 5 (by decide) (wAt hts 17 (w := .fieldLink RX10 147 "FluxBenchModel" "plain" "I") rfl) (fun _ h9 => h9) rfl dX10_manyNow_84 ?_
  refine va_iast hx hb hK hP hD hS 2 0 rfl rfl (vp_in_nI (n := 5) (by omega) (by decide)) dX10_manyNow_87 (fun H locs hP hD hS => ?_)
  rw [nI_clamp (n := 5) (by omega)] at hP hD
  have hP : va_P D vwCl [(h0, .inr (11, [.int th, .ref q, .int (nI 8), .int (nI 0), .int (nI 0), .int (nI 0), .int (nI 0), .long sm])), (ra_1, .inr (0, [.int (nI 0), .int (-1), .int (nI 0), .ref q])), (q_1, .inl (kA 0, 7, .inl (upd (upd (upd (upd (upd (upd (fun _ => 0) 0 (nI 0)) 1 (nI 8)) 2 (nI 0)) 3 (nI 0)) 4 (nI 0)) 5 (nI 0)))), (q, .inr (1, [.int (nI 0), .ref z, .int (nI 0)]))] H := hP
  have hD : va_D A [(h0, .inr (11, [.int th, .ref q, .int (nI 8), .int (nI 0), .int (nI 0), .int (nI 0), .int (nI 0), .long sm])), (ra_1, .inr (0, [.int (nI 0), .int (-1), .int (nI 0), .ref q])), (q_1, .inl (kA 0, 7, .inl (upd (upd (upd (upd (upd (upd (fun _ => 0) 0 (nI 0)) 1 (nI 8)) 2 (nI 0)) 3 (nI 0)) 4 (nI 0)) 5 (nI 0)))), (q, .inr (1, [.int (nI 0), .ref z, .int (nI 0)]))] := hD
  refine lv_dup hx hb dX10_manyNow_88 rfl ?_
  refine lv_bipush (v := nI 6) hx hb dX10_manyNow_89 (by decide) ?_
  refine lv_aload_n hx hb dX10_manyNow_91 rfl (lv_at hl 2 rfl) ?_
  refine va_get (D := D) (ci := 11) (v := .int (nI 0)) (C := RX10) (T := TX10) (N := 8) hx hb hts n_X10_manyNow_e_X10 hown hK hP 0 rfl rfl 6 (by decide) (wAt hts 18 (w := .fieldLink RX10 144 "FluxBenchModel" "raw" "I") rfl) (fun _ h9 => h9) rfl dX10_manyNow_92 ?_
  refine va_iast hx hb hK hP hD hS 2 0 rfl rfl (vp_in_nI (n := 6) (by omega) (by decide)) dX10_manyNow_95 (fun H locs hP hD hS => ?_)
  rw [nI_clamp (n := 6) (by omega)] at hP hD
  have hP : va_P D vwCl [(h0, .inr (11, [.int th, .ref q, .int (nI 8), .int (nI 0), .int (nI 0), .int (nI 0), .int (nI 0), .long sm])), (ra_1, .inr (0, [.int (nI 0), .int (-1), .int (nI 0), .ref q])), (q_1, .inl (kA 0, 7, .inl (upd (upd (upd (upd (upd (upd (upd (fun _ => 0) 0 (nI 0)) 1 (nI 8)) 2 (nI 0)) 3 (nI 0)) 4 (nI 0)) 5 (nI 0)) 6 (nI 0)))), (q, .inr (1, [.int (nI 0), .ref z, .int (nI 0)]))] H := hP
  have hD : va_D A [(h0, .inr (11, [.int th, .ref q, .int (nI 8), .int (nI 0), .int (nI 0), .int (nI 0), .int (nI 0), .long sm])), (ra_1, .inr (0, [.int (nI 0), .int (-1), .int (nI 0), .ref q])), (q_1, .inl (kA 0, 7, .inl (upd (upd (upd (upd (upd (upd (upd (fun _ => 0) 0 (nI 0)) 1 (nI 8)) 2 (nI 0)) 3 (nI 0)) 4 (nI 0)) 5 (nI 0)) 6 (nI 0)))), (q, .inr (1, [.int (nI 0), .ref z, .int (nI 0)]))] := hD
  refine lv_astore_n (lv' := [(3, .ref q_1), (2, .int (nI 0)), (0, .ref h0), (1, .int (nI n))]) hx hb dX10_manyNow_96 rfl hl (by decide) rfl (fun ls hl => ?_)
  refine lv_aload_n hx hb dX10_manyNow_97 rfl (lv_at hl 0 rfl) ?_
  refine lv_iload_n hx hb dX10_manyNow_98 rfl (lv_at hl 3 rfl) ?_
  refine va_iald hx hb hK hP 2 0 rfl rfl (vp_in_nI (n := n) (by omega) (by decide)) dX10_manyNow_99 ?_
  rw [nI_clamp (n := n) (by omega)]
  have hP := hP.sub (ws' := [(h0, .inr (11, [.int th, .ref q, .int (nI 8), .int (nI 0), .int (nI 0), .int (nI 0), .int (nI 0), .long sm])), (q, .inr (1, [.int (nI 0), .ref z, .int (nI 0)]))]) [0, 3] rfl
  have hD := hD.sub (ws' := [(h0, .inr (11, [.int th, .ref q, .int (nI 8), .int (nI 0), .int (nI 0), .int (nI 0), .int (nI 0), .long sm])), (q, .inr (1, [.int (nI 0), .ref z, .int (nI 0)]))]) [0, 3] (by decide) rfl
  exact endI hx hb hr hlocks hK hP hD hS (⟨rfl, by rcases (show n = 0 ∨ n = 1 ∨ n = 2 ∨ n = 3 ∨ n = 4 ∨ n = 5 ∨ n = 6 by omega) with rfl | rfl | rfl | rfl | rfl | rfl | rfl <;> rfl⟩) (Nat.le_of_ble_eq_true rfl) (Nat.le_of_ble_eq_true rfl) dX10_manyNow_100

def wq_X10_many_ok : List Cond := .code yX10_many cX10_many 2 (some .int) :: (([.fieldLink RX10 20 "FluxBenchModel" "thrown" "I", .methodLink RX10 27 yX10_is, .static yX10_is, .initialized RX10, .methodLink RX10 229 yX10_manyNow, .instanceMethod yX10_manyNow, .selects RX10 yX10_manyNow yX10_manyNow] : List Cond) ++ (u_ws RX10 TX10 8 ++ (wq_X10_is ++ (wq_X10_manyNow_e ++ ([] : List Cond)))))
theorem gd_X10_many_ok : wq_X10_many_ok.all goodWord = true := by decide +kernel
theorem n_X10_many_ok_X10 : ∀ w ∈ u_ws RX10 TX10 8, w ∈ wq_X10_many_ok := fun w h => List.mem_cons_of_mem _ (List.mem_append_right _ (List.mem_append_left _ h))
theorem h_X10_many_ok_0 : GoodIn wq_X10_many_ok (va_wsS RX10 27 yX10_is wq_X10_is) := goodIn_app (goodIn_r _ [2, 3, 4] (by decide +kernel) (by decide +kernel)) (goodIn_sub (fun w h => List.mem_cons_of_mem _ (List.mem_append_right _ (List.mem_append_right _ (List.mem_append_left _ h)))) gd_X10_is)
theorem h_X10_many_ok_1 : GoodIn wq_X10_many_ok (wsV RX10 229 RX10 yX10_manyNow wq_X10_manyNow_e) := goodIn_app (goodIn_r _ [5, 6, 7, 4] (by decide +kernel) (by decide +kernel)) (goodIn_sub (fun w h => List.mem_cons_of_mem _ (List.mem_append_right _ (List.mem_append_right _ (List.mem_append_right _ (List.mem_append_left _ h))))) gd_X10_manyNow_e)
set_option maxHeartbeats 4000000 in
set_option maxRecDepth 100000 in
theorem c_X10_many_ok (l : Launch) (D : va_G) (kA : Nat → ClassId) (z : Nat) (h0 q n : Nat) (th : Int32) (hn : n ≤ 6) : mI l D (tyL kA) z yX10_many wq_X10_many_ok ({ frames := 4, cells := 2, slots := 11, locals := 120 }) [.ref h0, .int (nI n)] [(h0, .inr (11, [.int th, .ref q, .int (nI 8), .int (nI 0), .int (nI 0), .int (nI 0), .int (nI 0), .long 0])), (q, .inr (1, [.int (nI 0), .ref z, .int (nI 0)]))] (fun r w => w = [(h0, .inr (11, [.int (nI 0), .ref q, .int (nI 8), .int (nI 0), .int (nI 0), .int (nI 0), .int (nI 0), .long 0])), (q, .inr (1, [.int (nI 0), .ref z, .int (nI 0)]))] ∧ r = nI ([0, 8, 0, 0, 0, 0, 0].getD n 0)) := by
  refine ofI (cc := cX10_many) (maxL := 2) RX10 rfl (by decide +kernel) rfl (Nat.le_of_ble_eq_true rfl) ?_
  intro p e s m args below meth c A ls hE
  obtain ⟨hx, hb, hr, hml, hts, hown, hlocks, hA, hS, hP, hK, hD, hG, hl⟩ := hE
  have hl : lv_has ls 2 [(0, .ref h0), (1, .int (nI n))] := hl
  have hH : s.heap = s.heap := rfl
  refine lv_aload_n hx hb dX10_many_0 rfl (lv_at hl 0 rfl) ?_
  refine lv_iconst (v := nI 0) hx hb dX10_many_1 (by decide) ?_
  refine va_put (D := D) (ci := 11) (v := .int (nI 0)) (ty := .int) (C := RX10) (T := TX10) (N := 8) hx hb hts n_X10_many_ok_X10 tyX10 tyX10_ok nmX10 hown hK hP hD hS 0 rfl rfl 0 (by decide) (wAt hts 1 (w := .fieldLink RX10 20 "FluxBenchModel" "thrown" "I") rfl) (fun _ h9 => h9) rfl (by decide +kernel) rfl rfl (Nat.le_of_ble_eq_true rfl) dX10_many_2 (fun H locs hP hD hS => ?_)
  have hP : va_P D vwCl [(h0, .inr (11, [.int (nI 0), .ref q, .int (nI 8), .int (nI 0), .int (nI 0), .int (nI 0), .int (nI 0), .long 0])), (q, .inr (1, [.int (nI 0), .ref z, .int (nI 0)]))] H := hP
  have hD : va_D A [(h0, .inr (11, [.int (nI 0), .ref q, .int (nI 8), .int (nI 0), .int (nI 0), .int (nI 0), .int (nI 0), .long 0])), (q, .inr (1, [.int (nI 0), .ref z, .int (nI 0)]))] := hD
  refine lv_iload_n hx hb dX10_many_5 rfl (lv_at hl 1 rfl) ?_
  refine lv_iconst (v := nI 0) hx hb dX10_many_6 (by decide) ?_
  refine lv_bipush (v := nI 6) hx hb dX10_many_7 (by decide) ?_
  have hF := va_free (wc := []) hD hS hA [] rfl
  refine va_calli (va_runS (As := [.int (nI n), .int (nI 0), .int (nI 6)]) (rest := []) ⟨hx, hb, hml, hown, hts⟩ (c_X10_is l D kA z (nI n) (nI 0) (nI 6)  _) (va_cwS 3 hts h_X10_many_ok_0 rfl rfl rfl (by decide +kernel) ⟨Nat.le_of_ble_eq_true rfl, Nat.le_of_ble_eq_true rfl⟩) (fPs hK hP hD hS hG hF [] (by decide) rfl) rfl rfl hl.1 rfl (lv_room (Nat.le_of_ble_eq_true rfl)) dX10_many_9 ⟨Nat.le_of_ble_eq_true rfl, Nat.le_of_ble_eq_true rfl⟩) hS (fun q _ h => hF q h) hF (fun r_1 w1 t H locs ht hvm hw hB hz1 hk1 hS => ?_)
  obtain ⟨hP, hD⟩ := fJ (wr := [(h0, .inr (11, [.int (nI 0), .ref q, .int (nI 8), .int (nI 0), .int (nI 0), .int (nI 0), .int (nI 0), .long 0])), (q, .inr (1, [.int (nI 0), .ref z, .int (nI 0)]))]) hP hD [] [0, 1] rfl rfl (by decide) (by decide) hk1 hF ht hB
  try dsimp only at hw
  obtain ⟨rfl, e_1⟩ := hw
  replace e_1 := e_1.symm
  subst e_1
  have hP : va_P D vwCl [(h0, .inr (11, [.int (nI 0), .ref q, .int (nI 8), .int (nI 0), .int (nI 0), .int (nI 0), .int (nI 0), .long 0])), (q, .inr (1, [.int (nI 0), .ref z, .int (nI 0)]))] H := hP
  have hD : va_D A [(h0, .inr (11, [.int (nI 0), .ref q, .int (nI 8), .int (nI 0), .int (nI 0), .int (nI 0), .int (nI 0), .long 0])), (q, .inr (1, [.int (nI 0), .ref z, .int (nI 0)]))] := hD
  rw [isY (Nat.zero_le _) hn (by decide)]
  refine lv_if_eq (tgt := 23) hx hb dX10_many_12 (by decide) (fun c12 => absurd c12 (by decide)) (fun _ => ?_)
  refine lv_aload_n hx hb dX10_many_15 rfl (lv_at hl 0 rfl) ?_
  refine lv_iload_n hx hb dX10_many_16 rfl (lv_at hl 1 rfl) ?_
  have hF := va_free (wc := [(h0, .inr (11, [.int (nI 0), .ref q, .int (nI 8), .int (nI 0), .int (nI 0), .int (nI 0), .int (nI 0), .long 0])), (q, .inr (1, [.int (nI 0), .ref z, .int (nI 0)]))]) hD hS hA [0, 1] rfl
  refine va_calli (va_runV (As := [.int (nI n)]) (rest := []) ⟨hx, hb, hml, hown, hts⟩ (c_X10_manyNow_e l D kA z h0 q n (nI 0) 0 (by omega) _) (cwV 1 hts h_X10_many_ok_1 rfl rfl rfl (by decide +kernel) ⟨Nat.le_of_ble_eq_true rfl, Nat.le_of_ble_eq_true rfl⟩) (fPv hK hP hD hS hG hF [0, 1] (by decide) rfl 0 11 rfl rfl rfl) rfl rfl hl.1 rfl (lv_room (Nat.le_of_ble_eq_true rfl)) dX10_many_17 ⟨Nat.le_of_ble_eq_true rfl, Nat.le_of_ble_eq_true rfl⟩) hS (fun q _ h => hF q h) hF (fun r_2 w1 t H locs ht hvm hw hB hz1 hk1 hS => ?_)
  obtain ⟨hP, hD⟩ := fJ (wr := []) hP hD [0, 1] [] rfl rfl (by decide) (by decide) hk1 hF ht hB
  try dsimp only at hw
  obtain ⟨rfl, e_2⟩ := hw
  replace e_2 := e_2.symm
  subst e_2
  have hP : va_P D vwCl [(h0, .inr (11, [.int (nI 0), .ref q, .int (nI 8), .int (nI 0), .int (nI 0), .int (nI 0), .int (nI 0), .long 0])), (q, .inr (1, [.int (nI 0), .ref z, .int (nI 0)]))] H := hP
  have hD : va_D A [(h0, .inr (11, [.int (nI 0), .ref q, .int (nI 8), .int (nI 0), .int (nI 0), .int (nI 0), .int (nI 0), .long 0])), (q, .inr (1, [.int (nI 0), .ref z, .int (nI 0)]))] := hD
  refine lv_goto (tgt := 28) hx hb dX10_many_20 (by decide) ?_
  exact endI hx hb hr hlocks hK hP hD hS (⟨rfl, by first | rfl | assumption | omega | (rw [if_pos (by omega)]; first | done | rfl) | (rw [if_neg (by omega)]; first | done | rfl)⟩) (Nat.le_of_ble_eq_true rfl) (Nat.le_of_ble_eq_true rfl) dX10_many_28

def wq_X10_many_no : List Cond := .code yX10_many cX10_many 2 (some .int) :: (([.fieldLink RX10 20 "FluxBenchModel" "thrown" "I", .methodLink RX10 27 yX10_is, .static yX10_is, .initialized RX10, .methodLink RX10 31 yX10_refuse, .instanceMethod yX10_refuse, .selects RX10 yX10_refuse yX10_refuse] : List Cond) ++ (u_ws RX10 TX10 8 ++ (wq_X10_is ++ (wq_X10_refuse ++ ([] : List Cond)))))
theorem gd_X10_many_no : wq_X10_many_no.all goodWord = true := by decide +kernel
theorem n_X10_many_no_X10 : ∀ w ∈ u_ws RX10 TX10 8, w ∈ wq_X10_many_no := fun w h => List.mem_cons_of_mem _ (List.mem_append_right _ (List.mem_append_left _ h))
theorem h_X10_many_no_0 : GoodIn wq_X10_many_no (va_wsS RX10 27 yX10_is wq_X10_is) := goodIn_app (goodIn_r _ [2, 3, 4] (by decide +kernel) (by decide +kernel)) (goodIn_sub (fun w h => List.mem_cons_of_mem _ (List.mem_append_right _ (List.mem_append_right _ (List.mem_append_left _ h)))) gd_X10_is)
theorem h_X10_many_no_1 : GoodIn wq_X10_many_no (wsV RX10 31 RX10 yX10_refuse wq_X10_refuse) := goodIn_app (goodIn_r _ [5, 6, 7, 4] (by decide +kernel) (by decide +kernel)) (goodIn_sub (fun w h => List.mem_cons_of_mem _ (List.mem_append_right _ (List.mem_append_right _ (List.mem_append_right _ (List.mem_append_left _ h))))) gd_X10_refuse)
set_option maxHeartbeats 4000000 in
set_option maxRecDepth 100000 in
theorem c_X10_many_no (l : Launch) (D : va_G) (kA : Nat → ClassId) (z : Nat) (h0 q : Nat) (th x : Int32) (hxx : ∀ n : Nat, n ≤ 6 → x ≠ nI n) : mI l D (tyL kA) z yX10_many wq_X10_many_no ({ frames := 1, cells := 0, slots := 0, locals := 40 }) [.ref h0, .int x] [(h0, .inr (11, [.int th, .ref q, .int (nI 8), .int (nI 0), .int (nI 0), .int (nI 0), .int (nI 0), .long 0])), (q, .inr (1, [.int (nI 0), .ref z, .int (nI 0)]))] (fun r w => w = [(h0, .inr (11, [.int (nI 1), .ref q, .int (nI 8), .int (nI 0), .int (nI 0), .int (nI 0), .int (nI 0), .long 0])), (q, .inr (1, [.int (nI 0), .ref z, .int (nI 0)]))]) := by
  refine ofI (cc := cX10_many) (maxL := 2) RX10 rfl (by decide +kernel) rfl (Nat.le_of_ble_eq_true rfl) ?_
  intro p e s m args below meth c A ls hE
  obtain ⟨hx, hb, hr, hml, hts, hown, hlocks, hA, hS, hP, hK, hD, hG, hl⟩ := hE
  have hl : lv_has ls 2 [(0, .ref h0), (1, .int x)] := hl
  have hH : s.heap = s.heap := rfl
  refine lv_aload_n hx hb dX10_many_0 rfl (lv_at hl 0 rfl) ?_
  refine lv_iconst (v := nI 0) hx hb dX10_many_1 (by decide) ?_
  refine va_put (D := D) (ci := 11) (v := .int (nI 0)) (ty := .int) (C := RX10) (T := TX10) (N := 8) hx hb hts n_X10_many_no_X10 tyX10 tyX10_ok nmX10 hown hK hP hD hS 0 rfl rfl 0 (by decide) (wAt hts 1 (w := .fieldLink RX10 20 "FluxBenchModel" "thrown" "I") rfl) (fun _ h9 => h9) rfl (by decide +kernel) rfl rfl (Nat.le_of_ble_eq_true rfl) dX10_many_2 (fun H locs hP hD hS => ?_)
  have hP : va_P D vwCl [(h0, .inr (11, [.int (nI 0), .ref q, .int (nI 8), .int (nI 0), .int (nI 0), .int (nI 0), .int (nI 0), .long 0])), (q, .inr (1, [.int (nI 0), .ref z, .int (nI 0)]))] H := hP
  have hD : va_D A [(h0, .inr (11, [.int (nI 0), .ref q, .int (nI 8), .int (nI 0), .int (nI 0), .int (nI 0), .int (nI 0), .long 0])), (q, .inr (1, [.int (nI 0), .ref z, .int (nI 0)]))] := hD
  refine lv_iload_n hx hb dX10_many_5 rfl (lv_at hl 1 rfl) ?_
  refine lv_iconst (v := nI 0) hx hb dX10_many_6 (by decide) ?_
  refine lv_bipush (v := nI 6) hx hb dX10_many_7 (by decide) ?_
  have hF := va_free (wc := []) hD hS hA [] rfl
  refine va_calli (va_runS (As := [.int x, .int (nI 0), .int (nI 6)]) (rest := []) ⟨hx, hb, hml, hown, hts⟩ (c_X10_is l D kA z x (nI 0) (nI 6)  _) (va_cwS 3 hts h_X10_many_no_0 rfl rfl rfl (by decide +kernel) ⟨Nat.le_of_ble_eq_true rfl, Nat.le_of_ble_eq_true rfl⟩) (fPs hK hP hD hS hG hF [] (by decide) rfl) rfl rfl hl.1 rfl (lv_room (Nat.le_of_ble_eq_true rfl)) dX10_many_9 ⟨Nat.le_of_ble_eq_true rfl, Nat.le_of_ble_eq_true rfl⟩) hS (fun q _ h => hF q h) hF (fun r_1 w1 t H locs ht hvm hw hB hz1 hk1 hS => ?_)
  obtain ⟨hP, hD⟩ := fJ (wr := [(h0, .inr (11, [.int (nI 0), .ref q, .int (nI 8), .int (nI 0), .int (nI 0), .int (nI 0), .int (nI 0), .long 0])), (q, .inr (1, [.int (nI 0), .ref z, .int (nI 0)]))]) hP hD [] [0, 1] rfl rfl (by decide) (by decide) hk1 hF ht hB
  try dsimp only at hw
  obtain ⟨rfl, e_1⟩ := hw
  replace e_1 := e_1.symm
  subst e_1
  have hP : va_P D vwCl [(h0, .inr (11, [.int (nI 0), .ref q, .int (nI 8), .int (nI 0), .int (nI 0), .int (nI 0), .int (nI 0), .long 0])), (q, .inr (1, [.int (nI 0), .ref z, .int (nI 0)]))] H := hP
  have hD : va_D A [(h0, .inr (11, [.int (nI 0), .ref q, .int (nI 8), .int (nI 0), .int (nI 0), .int (nI 0), .int (nI 0), .long 0])), (q, .inr (1, [.int (nI 0), .ref z, .int (nI 0)]))] := hD
  rw [isN (by decide) (by decide) (fun n _ h => hxx n h)]
  refine lv_if_eq (tgt := 23) hx hb dX10_many_12 (by decide) (fun _ => ?_) (fun c12 => absurd (by decide) c12)
  refine lv_aload_n hx hb dX10_many_23 rfl (lv_at hl 0 rfl) ?_
  refine lv_iconst (v := nI 1) hx hb dX10_many_24 (by decide) ?_
  have hF := va_free (wc := [(h0, .inr (11, [.int (nI 0), .ref q, .int (nI 8), .int (nI 0), .int (nI 0), .int (nI 0), .int (nI 0), .long 0]))]) hD hS hA [0] rfl
  refine va_calli (va_runV (As := [.int (nI 1)]) (rest := []) ⟨hx, hb, hml, hown, hts⟩ (c_X10_refuse l D kA z h0 q (nI 1) (nI 0) (nI 8) (nI 0) (nI 0) (nI 0) (nI 0) 0  _) (cwV 1 hts h_X10_many_no_1 rfl rfl rfl (by decide +kernel) ⟨Nat.le_of_ble_eq_true rfl, Nat.le_of_ble_eq_true rfl⟩) (fPv hK hP hD hS hG hF [0] (by decide) rfl 0 11 rfl rfl rfl) rfl rfl hl.1 rfl (lv_room (Nat.le_of_ble_eq_true rfl)) dX10_many_25 ⟨Nat.le_of_ble_eq_true rfl, Nat.le_of_ble_eq_true rfl⟩) hS (fun q _ h => hF q h) hF (fun r_2 w1 t H locs ht hvm hw hB hz1 hk1 hS => ?_)
  obtain ⟨hP, hD⟩ := fJ (wr := [(q, .inr (1, [.int (nI 0), .ref z, .int (nI 0)]))]) hP hD [0] [1] rfl rfl (by decide) (by decide) hk1 hF ht hB
  try dsimp only at hw
  obtain ⟨rfl, e_2⟩ := hw
  replace e_2 := e_2.symm
  subst e_2
  have hP : va_P D vwCl [(q, .inr (1, [.int (nI 0), .ref z, .int (nI 0)])), (h0, .inr (11, [.int (nI 1), .ref q, .int (nI 8), .int (nI 0), .int (nI 0), .int (nI 0), .int (nI 0), .long 0]))] H := hP
  have hD : va_D A [(q, .inr (1, [.int (nI 0), .ref z, .int (nI 0)])), (h0, .inr (11, [.int (nI 1), .ref q, .int (nI 8), .int (nI 0), .int (nI 0), .int (nI 0), .int (nI 0), .long 0]))] := hD
  have hP := hP.sub (ws' := [(h0, .inr (11, [.int (nI 1), .ref q, .int (nI 8), .int (nI 0), .int (nI 0), .int (nI 0), .int (nI 0), .long 0])), (q, .inr (1, [.int (nI 0), .ref z, .int (nI 0)]))]) [1, 0] rfl
  have hD := hD.sub (ws' := [(h0, .inr (11, [.int (nI 1), .ref q, .int (nI 8), .int (nI 0), .int (nI 0), .int (nI 0), .int (nI 0), .long 0])), (q, .inr (1, [.int (nI 0), .ref z, .int (nI 0)]))]) [1, 0] (by decide) rfl
  exact endI hx hb hr hlocks hK hP hD hS (rfl) (Nat.le_of_ble_eq_true rfl) (Nat.le_of_ble_eq_true rfl) dX10_many_28

def wq_X10_add : List Cond := .code yX10_add cX10_add 2 none :: (([.fieldLink RX10 247 "FluxBenchModel" "sum" "J", .constantLong RX10 250 (31)] : List Cond) ++ (u_ws RX10 TX10 8 ++ ([] : List Cond)))
theorem gd_X10_add : wq_X10_add.all goodWord = true := by decide +kernel
theorem n_X10_add_X10 : ∀ w ∈ u_ws RX10 TX10 8, w ∈ wq_X10_add := fun w h => List.mem_cons_of_mem _ (List.mem_append_right _ (List.mem_append_left _ h))
set_option maxHeartbeats 4000000 in
set_option maxRecDepth 100000 in
theorem c_X10_add (l : Launch) (D : va_G) (kA : Nat → ClassId) (z : Nat) (h0 q : Nat) (k th sp dr rd pl rw : Int32) (sm : Int64)  : mV l D (tyL kA) z yX10_add wq_X10_add ({ frames := 0, cells := 0, slots := 0, locals := 0 }) [.ref h0, .int k] [(h0, .inr (11, [.int th, .ref q, .int sp, .int dr, .int rd, .int pl, .int rw, .long sm]))] (fun w => w = [(h0, .inr (11, [.int th, .ref q, .int sp, .int dr, .int rd, .int pl, .int rw, .long (sm * 31 + k.toInt64)]))]) := by
  refine ofV (cc := cX10_add) (maxL := 2) RX10 rfl (by decide +kernel) rfl (Nat.le_of_ble_eq_true rfl) ?_
  intro p e s m args below meth c A ls hnm hE
  obtain ⟨hx, hb, hr, hml, hts, hown, hlocks, hA, hS, hP, hK, hD, hG, hl⟩ := hE
  have hl : lv_has ls 2 [(0, .ref h0), (1, .int k)] := hl
  have hH : s.heap = s.heap := rfl
  refine lv_aload_n hx hb dX10_add_0 rfl (lv_at hl 0 rfl) ?_
  refine lv_aload_n hx hb dX10_add_1 rfl (lv_at hl 0 rfl) ?_
  refine va_get (D := D) (ci := 11) (v := .long sm) (C := RX10) (T := TX10) (N := 8) hx hb hts n_X10_add_X10 hown hK hP 0 rfl rfl 7 (by decide) (wAt hts 1 (w := .fieldLink RX10 247 "FluxBenchModel" "sum" "J") rfl) (fun _ h9 => h9) rfl dX10_add_2 ?_
  refine lv_ldc2 hx hb hown (wAt hts 2 (w := .constantLong RX10 250 (31)) rfl) dX10_add_5 ?_
  refine lv_lmul hx hb dX10_add_8 ?_
  refine lv_iload_n hx hb dX10_add_9 rfl (lv_at hl 1 rfl) ?_
  refine lv_i2l (v := k.toInt64) hx hb dX10_add_10 rfl ?_
  refine lv_ladd hx hb dX10_add_11 ?_
  refine va_put (D := D) (ci := 11) (v := .long ((sm * (31)) + k.toInt64)) (ty := .long) (C := RX10) (T := TX10) (N := 8) hx hb hts n_X10_add_X10 tyX10 tyX10_ok nmX10 hown hK hP hD hS 0 rfl rfl 7 (by decide) (wAt hts 1 (w := .fieldLink RX10 247 "FluxBenchModel" "sum" "J") rfl) (fun _ h9 => h9) rfl (by decide +kernel) rfl rfl (Nat.le_of_ble_eq_true rfl) dX10_add_12 (fun H locs hP hD hS => ?_)
  have hP : va_P D vwCl [(h0, .inr (11, [.int th, .ref q, .int sp, .int dr, .int rd, .int pl, .int rw, .long ((sm * (31)) + k.toInt64)]))] H := hP
  have hD : va_D A [(h0, .inr (11, [.int th, .ref q, .int sp, .int dr, .int rd, .int pl, .int rw, .long ((sm * (31)) + k.toInt64)]))] := hD
  exact endV hx hb hr hlocks hK hP hD hS (rfl) (Nat.le_of_ble_eq_true rfl) (Nat.le_of_ble_eq_true rfl) dX10_add_15

def wq_X10_digest_e : List Cond := .code yX10_digest cX10_digest 6 (some .long) :: (([.fieldLink RX10 20 "FluxBenchModel" "thrown" "I", .constantLong RX10 252 (9601), .fieldLink RX10 247 "FluxBenchModel" "sum" "J", .methodLink RX10 229 yX10_manyNow, .instanceMethod yX10_manyNow, .selects RX10 yX10_manyNow yX10_manyNow, .initialized RX10, .methodLink RX10 254 yX10_add, .instanceMethod yX10_add, .selects RX10 yX10_add yX10_add, .fieldLink RX10 10 "FluxBenchModel" "tracks" "Ljava/util/ArrayList;", .methodLink RX10 154 yJx4a65c_iterator_32c93, .instanceMethod yJx4a65c_iterator_32c93, .selects RJx4a65c yJx4a65c_iterator_32c93 yJx4a65c_iterator_32c93, .initialized RJx4a65c, .methodLink RX10 158 ⟨"java/util/Iterator", "hasNext", "()Z"⟩, .selects RJx35411 ⟨"java/util/Iterator", "hasNext", "()Z"⟩ yJx35411_hasNext_aae02, .instanceMethod yJx35411_hasNext_aae02, .initialized RJx35411] : List Cond) ++ (u_ws RX10 TX10 8 ++ (wq_X10_manyNow_e ++ (wq_X10_add ++ (wq_Jx4a65c_iterator_32c93 ++ (wq_Jx35411_hasNext_aae02_no ++ ([] : List Cond)))))))
theorem gd_X10_digest_e : wq_X10_digest_e.all goodWord = true := by decide +kernel
theorem n_X10_digest_e_X10 : ∀ w ∈ u_ws RX10 TX10 8, w ∈ wq_X10_digest_e := fun w h => List.mem_cons_of_mem _ (List.mem_append_right _ (List.mem_append_left _ h))
theorem h_X10_digest_e_0 : GoodIn wq_X10_digest_e (wsV RX10 229 RX10 yX10_manyNow wq_X10_manyNow_e) := goodIn_app (goodIn_r _ [4, 5, 6, 7] (by decide +kernel) (by decide +kernel)) (goodIn_sub (fun w h => List.mem_cons_of_mem _ (List.mem_append_right _ (List.mem_append_right _ (List.mem_append_left _ h)))) gd_X10_manyNow_e)
theorem h_X10_digest_e_1 : GoodIn wq_X10_digest_e (wsV RX10 254 RX10 yX10_add wq_X10_add) := goodIn_app (goodIn_r _ [8, 9, 10, 7] (by decide +kernel) (by decide +kernel)) (goodIn_sub (fun w h => List.mem_cons_of_mem _ (List.mem_append_right _ (List.mem_append_right _ (List.mem_append_right _ (List.mem_append_left _ h))))) gd_X10_add)
theorem h_X10_digest_e_2 : GoodIn wq_X10_digest_e (wsV RX10 154 RJx4a65c yJx4a65c_iterator_32c93 wq_Jx4a65c_iterator_32c93) := goodIn_app (goodIn_r _ [12, 13, 14, 15] (by decide +kernel) (by decide +kernel)) (goodIn_sub (fun w h => List.mem_cons_of_mem _ (List.mem_append_right _ (List.mem_append_right _ (List.mem_append_right _ (List.mem_append_right _ (List.mem_append_left _ h)))))) gd_Jx4a65c_iterator_32c93)
theorem h_X10_digest_e_3 : GoodIn wq_X10_digest_e (va_wsF RX10 158 RJx35411 ⟨"java/util/Iterator", "hasNext", "()Z"⟩ yJx35411_hasNext_aae02 wq_Jx35411_hasNext_aae02_no) := goodIn_app (goodIn_r _ [16, 17, 18, 19] (by decide +kernel) (by decide +kernel)) (goodIn_sub (fun w h => List.mem_cons_of_mem _ (List.mem_append_right _ (List.mem_append_right _ (List.mem_append_right _ (List.mem_append_right _ (List.mem_append_right _ (List.mem_append_left _ h))))))) gd_Jx35411_hasNext_aae02_no)
set_option maxHeartbeats 4000000 in
set_option maxRecDepth 100000 in
theorem c_X10_digest_e (l : Launch) (D : va_G) (kA : Nat → ClassId) (z : Nat) (h0 q : Nat) (th : Int32)  : mL l D (tyL kA) z yX10_digest wq_X10_digest_e ({ frames := 4, cells := 15, slots := 81, locals := 110 }) [.ref h0] [(h0, .inr (11, [.int th, .ref q, .int (nI 8), .int (nI 0), .int (nI 0), .int (nI 0), .int (nI 0), .long 0])), (q, .inr (1, [.int (nI 0), .ref z, .int (nI 0)]))] (fun r w => ∃ (sm : Int64), w = [(h0, .inr (11, [.int (nI 0), .ref q, .int (nI 8), .int (nI 0), .int (nI 0), .int (nI 0), .int (nI 0), .long sm])), (q, .inr (1, [.int (nI 0), .ref z, .int (nI 0)]))] ∧ r = 264148837112919) := by
  refine ofL (cc := cX10_digest) (maxL := 6) RX10 rfl (by decide +kernel) rfl (Nat.le_of_ble_eq_true rfl) ?_
  intro p e s m args below meth c A ls hE
  obtain ⟨hx, hb, hr, hml, hts, hown, hlocks, hA, hS, hP, hK, hD, hG, hl⟩ := hE
  have hl : lv_has ls 6 [(0, .ref h0)] := hl
  have hH : s.heap = s.heap := rfl
  refine lv_aload_n hx hb dX10_digest_0 rfl (lv_at hl 0 rfl) ?_
  refine lv_iconst (v := nI 0) hx hb dX10_digest_1 (by decide) ?_
  refine va_put (D := D) (ci := 11) (v := .int (nI 0)) (ty := .int) (C := RX10) (T := TX10) (N := 8) hx hb hts n_X10_digest_e_X10 tyX10 tyX10_ok nmX10 hown hK hP hD hS 0 rfl rfl 0 (by decide) (wAt hts 1 (w := .fieldLink RX10 20 "FluxBenchModel" "thrown" "I") rfl) (fun _ h9 => h9) rfl (by decide +kernel) rfl rfl (Nat.le_of_ble_eq_true rfl) dX10_digest_2 (fun H locs hP hD hS => ?_)
  have hP : va_P D vwCl [(h0, .inr (11, [.int (nI 0), .ref q, .int (nI 8), .int (nI 0), .int (nI 0), .int (nI 0), .int (nI 0), .long 0])), (q, .inr (1, [.int (nI 0), .ref z, .int (nI 0)]))] H := hP
  have hD : va_D A [(h0, .inr (11, [.int (nI 0), .ref q, .int (nI 8), .int (nI 0), .int (nI 0), .int (nI 0), .int (nI 0), .long 0])), (q, .inr (1, [.int (nI 0), .ref z, .int (nI 0)]))] := hD
  refine lv_aload_n hx hb dX10_digest_5 rfl (lv_at hl 0 rfl) ?_
  refine lv_ldc2 hx hb hown (wAt hts 2 (w := .constantLong RX10 252 (9601)) rfl) dX10_digest_6 ?_
  refine va_put (D := D) (ci := 11) (v := .long (9601)) (ty := .long) (C := RX10) (T := TX10) (N := 8) hx hb hts n_X10_digest_e_X10 tyX10 tyX10_ok nmX10 hown hK hP hD hS 0 rfl rfl 7 (by decide) (wAt hts 3 (w := .fieldLink RX10 247 "FluxBenchModel" "sum" "J") rfl) (fun _ h9 => h9) rfl (by decide +kernel) rfl rfl (Nat.le_of_ble_eq_true rfl) dX10_digest_9 (fun H locs hP hD hS => ?_)
  have hP : va_P D vwCl [(h0, .inr (11, [.int (nI 0), .ref q, .int (nI 8), .int (nI 0), .int (nI 0), .int (nI 0), .int (nI 0), .long (9601)])), (q, .inr (1, [.int (nI 0), .ref z, .int (nI 0)]))] H := hP
  have hD : va_D A [(h0, .inr (11, [.int (nI 0), .ref q, .int (nI 8), .int (nI 0), .int (nI 0), .int (nI 0), .int (nI 0), .long (9601)])), (q, .inr (1, [.int (nI 0), .ref z, .int (nI 0)]))] := hD
  refine lv_iconst (v := nI 0) hx hb dX10_digest_12 (by decide) ?_
  refine lv_istore_n (lv' := [(1, .int (nI 0)), (0, .ref h0)]) hx hb dX10_digest_13 rfl hl (by decide) rfl (fun ls hl => ?_)
  refine lv_iload_n hx hb dX10_digest_14 rfl (lv_at hl 0 rfl) ?_
  refine lv_bipush (v := nI 7) hx hb dX10_digest_15 (by decide) ?_
  refine lv_icmp_ge (tgt := 35) hx hb dX10_digest_17 (by decide) (fun c17 => absurd c17 (by decide)) (fun _ => ?_)
  refine lv_aload_n hx hb dX10_digest_20 rfl (lv_at hl 1 rfl) ?_
  refine lv_aload_n hx hb dX10_digest_21 rfl (lv_at hl 1 rfl) ?_
  refine lv_iload_n hx hb dX10_digest_22 rfl (lv_at hl 0 rfl) ?_
  have hF := va_free (wc := [(h0, .inr (11, [.int (nI 0), .ref q, .int (nI 8), .int (nI 0), .int (nI 0), .int (nI 0), .int (nI 0), .long (9601)])), (q, .inr (1, [.int (nI 0), .ref z, .int (nI 0)]))]) hD hS hA [0, 1] rfl
  refine va_calli (va_runV (As := [.int (nI 0)]) (rest := [.ref h0]) ⟨hx, hb, hml, hown, hts⟩ (c_X10_manyNow_e l D kA z h0 q 0 (nI 0) (9601) (by decide) _) (cwV 1 hts h_X10_digest_e_0 rfl rfl rfl (by decide +kernel) ⟨Nat.le_of_ble_eq_true rfl, Nat.le_of_ble_eq_true rfl⟩) (fPv hK hP hD hS hG hF [0, 1] (by decide) rfl 0 11 rfl rfl rfl) rfl rfl hl.1 rfl (lv_room (Nat.le_of_ble_eq_true rfl)) dX10_digest_23 ⟨Nat.le_of_ble_eq_true rfl, Nat.le_of_ble_eq_true rfl⟩) hS (fun q _ h => hF q h) hF (fun r_1 w1 t H locs ht hvm hw hB hz1 hk1 hS => ?_)
  obtain ⟨hP, hD⟩ := fJ (wr := []) hP hD [0, 1] [] rfl rfl (by decide) (by decide) hk1 hF ht hB
  try dsimp only at hw
  obtain ⟨rfl, e_1⟩ := hw
  replace e_1 := e_1.symm
  subst e_1
  have hP : va_P D vwCl [(h0, .inr (11, [.int (nI 0), .ref q, .int (nI 8), .int (nI 0), .int (nI 0), .int (nI 0), .int (nI 0), .long (9601)])), (q, .inr (1, [.int (nI 0), .ref z, .int (nI 0)]))] H := hP
  have hD : va_D A [(h0, .inr (11, [.int (nI 0), .ref q, .int (nI 8), .int (nI 0), .int (nI 0), .int (nI 0), .int (nI 0), .long (9601)])), (q, .inr (1, [.int (nI 0), .ref z, .int (nI 0)]))] := hD
  have hF := va_free (wc := [(h0, .inr (11, [.int (nI 0), .ref q, .int (nI 8), .int (nI 0), .int (nI 0), .int (nI 0), .int (nI 0), .long (9601)]))]) hD hS hA [0] rfl
  refine va_callv (va_runV (As := [.int (nI ([0, 8, 0, 0, 0, 0, 0].getD 0 0))]) (rest := []) ⟨hx, hb, hml, hown, hts⟩ (c_X10_add l D kA z h0 q (nI ([0, 8, 0, 0, 0, 0, 0].getD 0 0)) (nI 0) (nI 8) (nI 0) (nI 0) (nI 0) (nI 0) (9601)  _) (cwV 1 hts h_X10_digest_e_1 rfl rfl rfl (by decide +kernel) ⟨Nat.le_of_ble_eq_true rfl, Nat.le_of_ble_eq_true rfl⟩) (fPv hK hP hD hS hG hF [0] (by decide) rfl 0 11 rfl rfl rfl) rfl rfl hl.1 rfl (lv_room (Nat.le_of_ble_eq_true rfl)) dX10_digest_26 ⟨Nat.le_of_ble_eq_true rfl, Nat.le_of_ble_eq_true rfl⟩) hS (fun q _ h => hF q h) hF (fun w1 t H locs ht hvm hw hB hz1 hk1 hS => ?_)
  obtain ⟨hP, hD⟩ := fJ (wr := [(q, .inr (1, [.int (nI 0), .ref z, .int (nI 0)]))]) hP hD [0] [1] rfl rfl (by decide) (by decide) hk1 hF ht hB
  try dsimp only at hw
  subst hw
  have hP : va_P D vwCl [(q, .inr (1, [.int (nI 0), .ref z, .int (nI 0)])), (h0, .inr (11, [.int (nI 0), .ref q, .int (nI 8), .int (nI 0), .int (nI 0), .int (nI 0), .int (nI 0), .long ((9601) * 31 + (nI ([0, 8, 0, 0, 0, 0, 0].getD 0 0)).toInt64)]))] H := hP
  have hD : va_D A [(q, .inr (1, [.int (nI 0), .ref z, .int (nI 0)])), (h0, .inr (11, [.int (nI 0), .ref q, .int (nI 8), .int (nI 0), .int (nI 0), .int (nI 0), .int (nI 0), .long ((9601) * 31 + (nI ([0, 8, 0, 0, 0, 0, 0].getD 0 0)).toInt64)]))] := hD
  refine lv_iinc (v := nI 1) (lv' := [(1, .int (nI 1)), (0, .ref h0)]) hx hb dX10_digest_29 hl (k := 0) rfl (by decide) (by decide) rfl (fun ls hl => ?_)
  refine lv_goto (tgt := 14) hx hb dX10_digest_32 (by decide) ?_
  refine lv_iload_n hx hb dX10_digest_14 rfl (lv_at hl 0 rfl) ?_
  refine lv_bipush (v := nI 7) hx hb dX10_digest_15 (by decide) ?_
  refine lv_icmp_ge (tgt := 35) hx hb dX10_digest_17 (by decide) (fun c17 => absurd c17 (by decide)) (fun _ => ?_)
  refine lv_aload_n hx hb dX10_digest_20 rfl (lv_at hl 1 rfl) ?_
  refine lv_aload_n hx hb dX10_digest_21 rfl (lv_at hl 1 rfl) ?_
  refine lv_iload_n hx hb dX10_digest_22 rfl (lv_at hl 0 rfl) ?_
  have hF := va_free (wc := [(h0, .inr (11, [.int (nI 0), .ref q, .int (nI 8), .int (nI 0), .int (nI 0), .int (nI 0), .int (nI 0), .long ((9601) * 31 + (nI ([0, 8, 0, 0, 0, 0, 0].getD 0 0)).toInt64)])), (q, .inr (1, [.int (nI 0), .ref z, .int (nI 0)]))]) hD hS hA [1, 0] rfl
  refine va_calli (va_runV (As := [.int (nI 1)]) (rest := [.ref h0]) ⟨hx, hb, hml, hown, hts⟩ (c_X10_manyNow_e l D kA z h0 q 1 (nI 0) ((9601) * 31 + (nI ([0, 8, 0, 0, 0, 0, 0].getD 0 0)).toInt64) (by decide) _) (cwV 1 hts h_X10_digest_e_0 rfl rfl rfl (by decide +kernel) ⟨Nat.le_of_ble_eq_true rfl, Nat.le_of_ble_eq_true rfl⟩) (fPv hK hP hD hS hG hF [1, 0] (by decide) rfl 1 11 rfl rfl rfl) rfl rfl hl.1 rfl (lv_room (Nat.le_of_ble_eq_true rfl)) dX10_digest_23 ⟨Nat.le_of_ble_eq_true rfl, Nat.le_of_ble_eq_true rfl⟩) hS (fun q _ h => hF q h) hF (fun r_2 w1 t H locs ht hvm hw hB hz1 hk1 hS => ?_)
  obtain ⟨hP, hD⟩ := fJ (wr := []) hP hD [1, 0] [] rfl rfl (by decide) (by decide) hk1 hF ht hB
  try dsimp only at hw
  obtain ⟨rfl, e_2⟩ := hw
  replace e_2 := e_2.symm
  subst e_2
  have hP : va_P D vwCl [(h0, .inr (11, [.int (nI 0), .ref q, .int (nI 8), .int (nI 0), .int (nI 0), .int (nI 0), .int (nI 0), .long ((9601) * 31 + (nI ([0, 8, 0, 0, 0, 0, 0].getD 0 0)).toInt64)])), (q, .inr (1, [.int (nI 0), .ref z, .int (nI 0)]))] H := hP
  have hD : va_D A [(h0, .inr (11, [.int (nI 0), .ref q, .int (nI 8), .int (nI 0), .int (nI 0), .int (nI 0), .int (nI 0), .long ((9601) * 31 + (nI ([0, 8, 0, 0, 0, 0, 0].getD 0 0)).toInt64)])), (q, .inr (1, [.int (nI 0), .ref z, .int (nI 0)]))] := hD
  have hF := va_free (wc := [(h0, .inr (11, [.int (nI 0), .ref q, .int (nI 8), .int (nI 0), .int (nI 0), .int (nI 0), .int (nI 0), .long ((9601) * 31 + (nI ([0, 8, 0, 0, 0, 0, 0].getD 0 0)).toInt64)]))]) hD hS hA [0] rfl
  refine va_callv (va_runV (As := [.int (nI ([0, 8, 0, 0, 0, 0, 0].getD 1 0))]) (rest := []) ⟨hx, hb, hml, hown, hts⟩ (c_X10_add l D kA z h0 q (nI ([0, 8, 0, 0, 0, 0, 0].getD 1 0)) (nI 0) (nI 8) (nI 0) (nI 0) (nI 0) (nI 0) ((9601) * 31 + (nI ([0, 8, 0, 0, 0, 0, 0].getD 0 0)).toInt64)  _) (cwV 1 hts h_X10_digest_e_1 rfl rfl rfl (by decide +kernel) ⟨Nat.le_of_ble_eq_true rfl, Nat.le_of_ble_eq_true rfl⟩) (fPv hK hP hD hS hG hF [0] (by decide) rfl 0 11 rfl rfl rfl) rfl rfl hl.1 rfl (lv_room (Nat.le_of_ble_eq_true rfl)) dX10_digest_26 ⟨Nat.le_of_ble_eq_true rfl, Nat.le_of_ble_eq_true rfl⟩) hS (fun q _ h => hF q h) hF (fun w1 t H locs ht hvm hw hB hz1 hk1 hS => ?_)
  obtain ⟨hP, hD⟩ := fJ (wr := [(q, .inr (1, [.int (nI 0), .ref z, .int (nI 0)]))]) hP hD [0] [1] rfl rfl (by decide) (by decide) hk1 hF ht hB
  try dsimp only at hw
  subst hw
  have hP : va_P D vwCl [(q, .inr (1, [.int (nI 0), .ref z, .int (nI 0)])), (h0, .inr (11, [.int (nI 0), .ref q, .int (nI 8), .int (nI 0), .int (nI 0), .int (nI 0), .int (nI 0), .long (((9601) * 31 + (nI ([0, 8, 0, 0, 0, 0, 0].getD 0 0)).toInt64) * 31 + (nI ([0, 8, 0, 0, 0, 0, 0].getD 1 0)).toInt64)]))] H := hP
  have hD : va_D A [(q, .inr (1, [.int (nI 0), .ref z, .int (nI 0)])), (h0, .inr (11, [.int (nI 0), .ref q, .int (nI 8), .int (nI 0), .int (nI 0), .int (nI 0), .int (nI 0), .long (((9601) * 31 + (nI ([0, 8, 0, 0, 0, 0, 0].getD 0 0)).toInt64) * 31 + (nI ([0, 8, 0, 0, 0, 0, 0].getD 1 0)).toInt64)]))] := hD
  refine lv_iinc (v := nI 2) (lv' := [(1, .int (nI 2)), (0, .ref h0)]) hx hb dX10_digest_29 hl (k := 0) rfl (by decide) (by decide) rfl (fun ls hl => ?_)
  refine lv_goto (tgt := 14) hx hb dX10_digest_32 (by decide) ?_
  refine lv_iload_n hx hb dX10_digest_14 rfl (lv_at hl 0 rfl) ?_
  refine lv_bipush (v := nI 7) hx hb dX10_digest_15 (by decide) ?_
  refine lv_icmp_ge (tgt := 35) hx hb dX10_digest_17 (by decide) (fun c17 => absurd c17 (by decide)) (fun _ => ?_)
  refine lv_aload_n hx hb dX10_digest_20 rfl (lv_at hl 1 rfl) ?_
  refine lv_aload_n hx hb dX10_digest_21 rfl (lv_at hl 1 rfl) ?_
  refine lv_iload_n hx hb dX10_digest_22 rfl (lv_at hl 0 rfl) ?_
  have hF := va_free (wc := [(h0, .inr (11, [.int (nI 0), .ref q, .int (nI 8), .int (nI 0), .int (nI 0), .int (nI 0), .int (nI 0), .long (((9601) * 31 + (nI ([0, 8, 0, 0, 0, 0, 0].getD 0 0)).toInt64) * 31 + (nI ([0, 8, 0, 0, 0, 0, 0].getD 1 0)).toInt64)])), (q, .inr (1, [.int (nI 0), .ref z, .int (nI 0)]))]) hD hS hA [1, 0] rfl
  refine va_calli (va_runV (As := [.int (nI 2)]) (rest := [.ref h0]) ⟨hx, hb, hml, hown, hts⟩ (c_X10_manyNow_e l D kA z h0 q 2 (nI 0) (((9601) * 31 + (nI ([0, 8, 0, 0, 0, 0, 0].getD 0 0)).toInt64) * 31 + (nI ([0, 8, 0, 0, 0, 0, 0].getD 1 0)).toInt64) (by decide) _) (cwV 1 hts h_X10_digest_e_0 rfl rfl rfl (by decide +kernel) ⟨Nat.le_of_ble_eq_true rfl, Nat.le_of_ble_eq_true rfl⟩) (fPv hK hP hD hS hG hF [1, 0] (by decide) rfl 1 11 rfl rfl rfl) rfl rfl hl.1 rfl (lv_room (Nat.le_of_ble_eq_true rfl)) dX10_digest_23 ⟨Nat.le_of_ble_eq_true rfl, Nat.le_of_ble_eq_true rfl⟩) hS (fun q _ h => hF q h) hF (fun r_3 w1 t H locs ht hvm hw hB hz1 hk1 hS => ?_)
  obtain ⟨hP, hD⟩ := fJ (wr := []) hP hD [1, 0] [] rfl rfl (by decide) (by decide) hk1 hF ht hB
  try dsimp only at hw
  obtain ⟨rfl, e_3⟩ := hw
  replace e_3 := e_3.symm
  subst e_3
  have hP : va_P D vwCl [(h0, .inr (11, [.int (nI 0), .ref q, .int (nI 8), .int (nI 0), .int (nI 0), .int (nI 0), .int (nI 0), .long (((9601) * 31 + (nI ([0, 8, 0, 0, 0, 0, 0].getD 0 0)).toInt64) * 31 + (nI ([0, 8, 0, 0, 0, 0, 0].getD 1 0)).toInt64)])), (q, .inr (1, [.int (nI 0), .ref z, .int (nI 0)]))] H := hP
  have hD : va_D A [(h0, .inr (11, [.int (nI 0), .ref q, .int (nI 8), .int (nI 0), .int (nI 0), .int (nI 0), .int (nI 0), .long (((9601) * 31 + (nI ([0, 8, 0, 0, 0, 0, 0].getD 0 0)).toInt64) * 31 + (nI ([0, 8, 0, 0, 0, 0, 0].getD 1 0)).toInt64)])), (q, .inr (1, [.int (nI 0), .ref z, .int (nI 0)]))] := hD
  have hF := va_free (wc := [(h0, .inr (11, [.int (nI 0), .ref q, .int (nI 8), .int (nI 0), .int (nI 0), .int (nI 0), .int (nI 0), .long (((9601) * 31 + (nI ([0, 8, 0, 0, 0, 0, 0].getD 0 0)).toInt64) * 31 + (nI ([0, 8, 0, 0, 0, 0, 0].getD 1 0)).toInt64)]))]) hD hS hA [0] rfl
  refine va_callv (va_runV (As := [.int (nI ([0, 8, 0, 0, 0, 0, 0].getD 2 0))]) (rest := []) ⟨hx, hb, hml, hown, hts⟩ (c_X10_add l D kA z h0 q (nI ([0, 8, 0, 0, 0, 0, 0].getD 2 0)) (nI 0) (nI 8) (nI 0) (nI 0) (nI 0) (nI 0) (((9601) * 31 + (nI ([0, 8, 0, 0, 0, 0, 0].getD 0 0)).toInt64) * 31 + (nI ([0, 8, 0, 0, 0, 0, 0].getD 1 0)).toInt64)  _) (cwV 1 hts h_X10_digest_e_1 rfl rfl rfl (by decide +kernel) ⟨Nat.le_of_ble_eq_true rfl, Nat.le_of_ble_eq_true rfl⟩) (fPv hK hP hD hS hG hF [0] (by decide) rfl 0 11 rfl rfl rfl) rfl rfl hl.1 rfl (lv_room (Nat.le_of_ble_eq_true rfl)) dX10_digest_26 ⟨Nat.le_of_ble_eq_true rfl, Nat.le_of_ble_eq_true rfl⟩) hS (fun q _ h => hF q h) hF (fun w1 t H locs ht hvm hw hB hz1 hk1 hS => ?_)
  obtain ⟨hP, hD⟩ := fJ (wr := [(q, .inr (1, [.int (nI 0), .ref z, .int (nI 0)]))]) hP hD [0] [1] rfl rfl (by decide) (by decide) hk1 hF ht hB
  try dsimp only at hw
  subst hw
  have hP : va_P D vwCl [(q, .inr (1, [.int (nI 0), .ref z, .int (nI 0)])), (h0, .inr (11, [.int (nI 0), .ref q, .int (nI 8), .int (nI 0), .int (nI 0), .int (nI 0), .int (nI 0), .long ((((9601) * 31 + (nI ([0, 8, 0, 0, 0, 0, 0].getD 0 0)).toInt64) * 31 + (nI ([0, 8, 0, 0, 0, 0, 0].getD 1 0)).toInt64) * 31 + (nI ([0, 8, 0, 0, 0, 0, 0].getD 2 0)).toInt64)]))] H := hP
  have hD : va_D A [(q, .inr (1, [.int (nI 0), .ref z, .int (nI 0)])), (h0, .inr (11, [.int (nI 0), .ref q, .int (nI 8), .int (nI 0), .int (nI 0), .int (nI 0), .int (nI 0), .long ((((9601) * 31 + (nI ([0, 8, 0, 0, 0, 0, 0].getD 0 0)).toInt64) * 31 + (nI ([0, 8, 0, 0, 0, 0, 0].getD 1 0)).toInt64) * 31 + (nI ([0, 8, 0, 0, 0, 0, 0].getD 2 0)).toInt64)]))] := hD
  refine lv_iinc (v := nI 3) (lv' := [(1, .int (nI 3)), (0, .ref h0)]) hx hb dX10_digest_29 hl (k := 0) rfl (by decide) (by decide) rfl (fun ls hl => ?_)
  refine lv_goto (tgt := 14) hx hb dX10_digest_32 (by decide) ?_
  refine lv_iload_n hx hb dX10_digest_14 rfl (lv_at hl 0 rfl) ?_
  refine lv_bipush (v := nI 7) hx hb dX10_digest_15 (by decide) ?_
  refine lv_icmp_ge (tgt := 35) hx hb dX10_digest_17 (by decide) (fun c17 => absurd c17 (by decide)) (fun _ => ?_)
  refine lv_aload_n hx hb dX10_digest_20 rfl (lv_at hl 1 rfl) ?_
  refine lv_aload_n hx hb dX10_digest_21 rfl (lv_at hl 1 rfl) ?_
  refine lv_iload_n hx hb dX10_digest_22 rfl (lv_at hl 0 rfl) ?_
  have hF := va_free (wc := [(h0, .inr (11, [.int (nI 0), .ref q, .int (nI 8), .int (nI 0), .int (nI 0), .int (nI 0), .int (nI 0), .long ((((9601) * 31 + (nI ([0, 8, 0, 0, 0, 0, 0].getD 0 0)).toInt64) * 31 + (nI ([0, 8, 0, 0, 0, 0, 0].getD 1 0)).toInt64) * 31 + (nI ([0, 8, 0, 0, 0, 0, 0].getD 2 0)).toInt64)])), (q, .inr (1, [.int (nI 0), .ref z, .int (nI 0)]))]) hD hS hA [1, 0] rfl
  refine va_calli (va_runV (As := [.int (nI 3)]) (rest := [.ref h0]) ⟨hx, hb, hml, hown, hts⟩ (c_X10_manyNow_e l D kA z h0 q 3 (nI 0) ((((9601) * 31 + (nI ([0, 8, 0, 0, 0, 0, 0].getD 0 0)).toInt64) * 31 + (nI ([0, 8, 0, 0, 0, 0, 0].getD 1 0)).toInt64) * 31 + (nI ([0, 8, 0, 0, 0, 0, 0].getD 2 0)).toInt64) (by decide) _) (cwV 1 hts h_X10_digest_e_0 rfl rfl rfl (by decide +kernel) ⟨Nat.le_of_ble_eq_true rfl, Nat.le_of_ble_eq_true rfl⟩) (fPv hK hP hD hS hG hF [1, 0] (by decide) rfl 1 11 rfl rfl rfl) rfl rfl hl.1 rfl (lv_room (Nat.le_of_ble_eq_true rfl)) dX10_digest_23 ⟨Nat.le_of_ble_eq_true rfl, Nat.le_of_ble_eq_true rfl⟩) hS (fun q _ h => hF q h) hF (fun r_4 w1 t H locs ht hvm hw hB hz1 hk1 hS => ?_)
  obtain ⟨hP, hD⟩ := fJ (wr := []) hP hD [1, 0] [] rfl rfl (by decide) (by decide) hk1 hF ht hB
  try dsimp only at hw
  obtain ⟨rfl, e_4⟩ := hw
  replace e_4 := e_4.symm
  subst e_4
  have hP : va_P D vwCl [(h0, .inr (11, [.int (nI 0), .ref q, .int (nI 8), .int (nI 0), .int (nI 0), .int (nI 0), .int (nI 0), .long ((((9601) * 31 + (nI ([0, 8, 0, 0, 0, 0, 0].getD 0 0)).toInt64) * 31 + (nI ([0, 8, 0, 0, 0, 0, 0].getD 1 0)).toInt64) * 31 + (nI ([0, 8, 0, 0, 0, 0, 0].getD 2 0)).toInt64)])), (q, .inr (1, [.int (nI 0), .ref z, .int (nI 0)]))] H := hP
  have hD : va_D A [(h0, .inr (11, [.int (nI 0), .ref q, .int (nI 8), .int (nI 0), .int (nI 0), .int (nI 0), .int (nI 0), .long ((((9601) * 31 + (nI ([0, 8, 0, 0, 0, 0, 0].getD 0 0)).toInt64) * 31 + (nI ([0, 8, 0, 0, 0, 0, 0].getD 1 0)).toInt64) * 31 + (nI ([0, 8, 0, 0, 0, 0, 0].getD 2 0)).toInt64)])), (q, .inr (1, [.int (nI 0), .ref z, .int (nI 0)]))] := hD
  have hF := va_free (wc := [(h0, .inr (11, [.int (nI 0), .ref q, .int (nI 8), .int (nI 0), .int (nI 0), .int (nI 0), .int (nI 0), .long ((((9601) * 31 + (nI ([0, 8, 0, 0, 0, 0, 0].getD 0 0)).toInt64) * 31 + (nI ([0, 8, 0, 0, 0, 0, 0].getD 1 0)).toInt64) * 31 + (nI ([0, 8, 0, 0, 0, 0, 0].getD 2 0)).toInt64)]))]) hD hS hA [0] rfl
  refine va_callv (va_runV (As := [.int (nI ([0, 8, 0, 0, 0, 0, 0].getD 3 0))]) (rest := []) ⟨hx, hb, hml, hown, hts⟩ (c_X10_add l D kA z h0 q (nI ([0, 8, 0, 0, 0, 0, 0].getD 3 0)) (nI 0) (nI 8) (nI 0) (nI 0) (nI 0) (nI 0) ((((9601) * 31 + (nI ([0, 8, 0, 0, 0, 0, 0].getD 0 0)).toInt64) * 31 + (nI ([0, 8, 0, 0, 0, 0, 0].getD 1 0)).toInt64) * 31 + (nI ([0, 8, 0, 0, 0, 0, 0].getD 2 0)).toInt64)  _) (cwV 1 hts h_X10_digest_e_1 rfl rfl rfl (by decide +kernel) ⟨Nat.le_of_ble_eq_true rfl, Nat.le_of_ble_eq_true rfl⟩) (fPv hK hP hD hS hG hF [0] (by decide) rfl 0 11 rfl rfl rfl) rfl rfl hl.1 rfl (lv_room (Nat.le_of_ble_eq_true rfl)) dX10_digest_26 ⟨Nat.le_of_ble_eq_true rfl, Nat.le_of_ble_eq_true rfl⟩) hS (fun q _ h => hF q h) hF (fun w1 t H locs ht hvm hw hB hz1 hk1 hS => ?_)
  obtain ⟨hP, hD⟩ := fJ (wr := [(q, .inr (1, [.int (nI 0), .ref z, .int (nI 0)]))]) hP hD [0] [1] rfl rfl (by decide) (by decide) hk1 hF ht hB
  try dsimp only at hw
  subst hw
  have hP : va_P D vwCl [(q, .inr (1, [.int (nI 0), .ref z, .int (nI 0)])), (h0, .inr (11, [.int (nI 0), .ref q, .int (nI 8), .int (nI 0), .int (nI 0), .int (nI 0), .int (nI 0), .long (((((9601) * 31 + (nI ([0, 8, 0, 0, 0, 0, 0].getD 0 0)).toInt64) * 31 + (nI ([0, 8, 0, 0, 0, 0, 0].getD 1 0)).toInt64) * 31 + (nI ([0, 8, 0, 0, 0, 0, 0].getD 2 0)).toInt64) * 31 + (nI ([0, 8, 0, 0, 0, 0, 0].getD 3 0)).toInt64)]))] H := hP
  have hD : va_D A [(q, .inr (1, [.int (nI 0), .ref z, .int (nI 0)])), (h0, .inr (11, [.int (nI 0), .ref q, .int (nI 8), .int (nI 0), .int (nI 0), .int (nI 0), .int (nI 0), .long (((((9601) * 31 + (nI ([0, 8, 0, 0, 0, 0, 0].getD 0 0)).toInt64) * 31 + (nI ([0, 8, 0, 0, 0, 0, 0].getD 1 0)).toInt64) * 31 + (nI ([0, 8, 0, 0, 0, 0, 0].getD 2 0)).toInt64) * 31 + (nI ([0, 8, 0, 0, 0, 0, 0].getD 3 0)).toInt64)]))] := hD
  refine lv_iinc (v := nI 4) (lv' := [(1, .int (nI 4)), (0, .ref h0)]) hx hb dX10_digest_29 hl (k := 0) rfl (by decide) (by decide) rfl (fun ls hl => ?_)
  refine lv_goto (tgt := 14) hx hb dX10_digest_32 (by decide) ?_
  refine lv_iload_n hx hb dX10_digest_14 rfl (lv_at hl 0 rfl) ?_
  refine lv_bipush (v := nI 7) hx hb dX10_digest_15 (by decide) ?_
  refine lv_icmp_ge (tgt := 35) hx hb dX10_digest_17 (by decide) (fun c17 => absurd c17 (by decide)) (fun _ => ?_)
  refine lv_aload_n hx hb dX10_digest_20 rfl (lv_at hl 1 rfl) ?_
  refine lv_aload_n hx hb dX10_digest_21 rfl (lv_at hl 1 rfl) ?_
  refine lv_iload_n hx hb dX10_digest_22 rfl (lv_at hl 0 rfl) ?_
  have hF := va_free (wc := [(h0, .inr (11, [.int (nI 0), .ref q, .int (nI 8), .int (nI 0), .int (nI 0), .int (nI 0), .int (nI 0), .long (((((9601) * 31 + (nI ([0, 8, 0, 0, 0, 0, 0].getD 0 0)).toInt64) * 31 + (nI ([0, 8, 0, 0, 0, 0, 0].getD 1 0)).toInt64) * 31 + (nI ([0, 8, 0, 0, 0, 0, 0].getD 2 0)).toInt64) * 31 + (nI ([0, 8, 0, 0, 0, 0, 0].getD 3 0)).toInt64)])), (q, .inr (1, [.int (nI 0), .ref z, .int (nI 0)]))]) hD hS hA [1, 0] rfl
  refine va_calli (va_runV (As := [.int (nI 4)]) (rest := [.ref h0]) ⟨hx, hb, hml, hown, hts⟩ (c_X10_manyNow_e l D kA z h0 q 4 (nI 0) (((((9601) * 31 + (nI ([0, 8, 0, 0, 0, 0, 0].getD 0 0)).toInt64) * 31 + (nI ([0, 8, 0, 0, 0, 0, 0].getD 1 0)).toInt64) * 31 + (nI ([0, 8, 0, 0, 0, 0, 0].getD 2 0)).toInt64) * 31 + (nI ([0, 8, 0, 0, 0, 0, 0].getD 3 0)).toInt64) (by decide) _) (cwV 1 hts h_X10_digest_e_0 rfl rfl rfl (by decide +kernel) ⟨Nat.le_of_ble_eq_true rfl, Nat.le_of_ble_eq_true rfl⟩) (fPv hK hP hD hS hG hF [1, 0] (by decide) rfl 1 11 rfl rfl rfl) rfl rfl hl.1 rfl (lv_room (Nat.le_of_ble_eq_true rfl)) dX10_digest_23 ⟨Nat.le_of_ble_eq_true rfl, Nat.le_of_ble_eq_true rfl⟩) hS (fun q _ h => hF q h) hF (fun r_5 w1 t H locs ht hvm hw hB hz1 hk1 hS => ?_)
  obtain ⟨hP, hD⟩ := fJ (wr := []) hP hD [1, 0] [] rfl rfl (by decide) (by decide) hk1 hF ht hB
  try dsimp only at hw
  obtain ⟨rfl, e_5⟩ := hw
  replace e_5 := e_5.symm
  subst e_5
  have hP : va_P D vwCl [(h0, .inr (11, [.int (nI 0), .ref q, .int (nI 8), .int (nI 0), .int (nI 0), .int (nI 0), .int (nI 0), .long (((((9601) * 31 + (nI ([0, 8, 0, 0, 0, 0, 0].getD 0 0)).toInt64) * 31 + (nI ([0, 8, 0, 0, 0, 0, 0].getD 1 0)).toInt64) * 31 + (nI ([0, 8, 0, 0, 0, 0, 0].getD 2 0)).toInt64) * 31 + (nI ([0, 8, 0, 0, 0, 0, 0].getD 3 0)).toInt64)])), (q, .inr (1, [.int (nI 0), .ref z, .int (nI 0)]))] H := hP
  have hD : va_D A [(h0, .inr (11, [.int (nI 0), .ref q, .int (nI 8), .int (nI 0), .int (nI 0), .int (nI 0), .int (nI 0), .long (((((9601) * 31 + (nI ([0, 8, 0, 0, 0, 0, 0].getD 0 0)).toInt64) * 31 + (nI ([0, 8, 0, 0, 0, 0, 0].getD 1 0)).toInt64) * 31 + (nI ([0, 8, 0, 0, 0, 0, 0].getD 2 0)).toInt64) * 31 + (nI ([0, 8, 0, 0, 0, 0, 0].getD 3 0)).toInt64)])), (q, .inr (1, [.int (nI 0), .ref z, .int (nI 0)]))] := hD
  have hF := va_free (wc := [(h0, .inr (11, [.int (nI 0), .ref q, .int (nI 8), .int (nI 0), .int (nI 0), .int (nI 0), .int (nI 0), .long (((((9601) * 31 + (nI ([0, 8, 0, 0, 0, 0, 0].getD 0 0)).toInt64) * 31 + (nI ([0, 8, 0, 0, 0, 0, 0].getD 1 0)).toInt64) * 31 + (nI ([0, 8, 0, 0, 0, 0, 0].getD 2 0)).toInt64) * 31 + (nI ([0, 8, 0, 0, 0, 0, 0].getD 3 0)).toInt64)]))]) hD hS hA [0] rfl
  refine va_callv (va_runV (As := [.int (nI ([0, 8, 0, 0, 0, 0, 0].getD 4 0))]) (rest := []) ⟨hx, hb, hml, hown, hts⟩ (c_X10_add l D kA z h0 q (nI ([0, 8, 0, 0, 0, 0, 0].getD 4 0)) (nI 0) (nI 8) (nI 0) (nI 0) (nI 0) (nI 0) (((((9601) * 31 + (nI ([0, 8, 0, 0, 0, 0, 0].getD 0 0)).toInt64) * 31 + (nI ([0, 8, 0, 0, 0, 0, 0].getD 1 0)).toInt64) * 31 + (nI ([0, 8, 0, 0, 0, 0, 0].getD 2 0)).toInt64) * 31 + (nI ([0, 8, 0, 0, 0, 0, 0].getD 3 0)).toInt64)  _) (cwV 1 hts h_X10_digest_e_1 rfl rfl rfl (by decide +kernel) ⟨Nat.le_of_ble_eq_true rfl, Nat.le_of_ble_eq_true rfl⟩) (fPv hK hP hD hS hG hF [0] (by decide) rfl 0 11 rfl rfl rfl) rfl rfl hl.1 rfl (lv_room (Nat.le_of_ble_eq_true rfl)) dX10_digest_26 ⟨Nat.le_of_ble_eq_true rfl, Nat.le_of_ble_eq_true rfl⟩) hS (fun q _ h => hF q h) hF (fun w1 t H locs ht hvm hw hB hz1 hk1 hS => ?_)
  obtain ⟨hP, hD⟩ := fJ (wr := [(q, .inr (1, [.int (nI 0), .ref z, .int (nI 0)]))]) hP hD [0] [1] rfl rfl (by decide) (by decide) hk1 hF ht hB
  try dsimp only at hw
  subst hw
  have hP : va_P D vwCl [(q, .inr (1, [.int (nI 0), .ref z, .int (nI 0)])), (h0, .inr (11, [.int (nI 0), .ref q, .int (nI 8), .int (nI 0), .int (nI 0), .int (nI 0), .int (nI 0), .long ((((((9601) * 31 + (nI ([0, 8, 0, 0, 0, 0, 0].getD 0 0)).toInt64) * 31 + (nI ([0, 8, 0, 0, 0, 0, 0].getD 1 0)).toInt64) * 31 + (nI ([0, 8, 0, 0, 0, 0, 0].getD 2 0)).toInt64) * 31 + (nI ([0, 8, 0, 0, 0, 0, 0].getD 3 0)).toInt64) * 31 + (nI ([0, 8, 0, 0, 0, 0, 0].getD 4 0)).toInt64)]))] H := hP
  have hD : va_D A [(q, .inr (1, [.int (nI 0), .ref z, .int (nI 0)])), (h0, .inr (11, [.int (nI 0), .ref q, .int (nI 8), .int (nI 0), .int (nI 0), .int (nI 0), .int (nI 0), .long ((((((9601) * 31 + (nI ([0, 8, 0, 0, 0, 0, 0].getD 0 0)).toInt64) * 31 + (nI ([0, 8, 0, 0, 0, 0, 0].getD 1 0)).toInt64) * 31 + (nI ([0, 8, 0, 0, 0, 0, 0].getD 2 0)).toInt64) * 31 + (nI ([0, 8, 0, 0, 0, 0, 0].getD 3 0)).toInt64) * 31 + (nI ([0, 8, 0, 0, 0, 0, 0].getD 4 0)).toInt64)]))] := hD
  refine lv_iinc (v := nI 5) (lv' := [(1, .int (nI 5)), (0, .ref h0)]) hx hb dX10_digest_29 hl (k := 0) rfl (by decide) (by decide) rfl (fun ls hl => ?_)
  refine lv_goto (tgt := 14) hx hb dX10_digest_32 (by decide) ?_
  refine lv_iload_n hx hb dX10_digest_14 rfl (lv_at hl 0 rfl) ?_
  refine lv_bipush (v := nI 7) hx hb dX10_digest_15 (by decide) ?_
  refine lv_icmp_ge (tgt := 35) hx hb dX10_digest_17 (by decide) (fun c17 => absurd c17 (by decide)) (fun _ => ?_)
  refine lv_aload_n hx hb dX10_digest_20 rfl (lv_at hl 1 rfl) ?_
  refine lv_aload_n hx hb dX10_digest_21 rfl (lv_at hl 1 rfl) ?_
  refine lv_iload_n hx hb dX10_digest_22 rfl (lv_at hl 0 rfl) ?_
  have hF := va_free (wc := [(h0, .inr (11, [.int (nI 0), .ref q, .int (nI 8), .int (nI 0), .int (nI 0), .int (nI 0), .int (nI 0), .long ((((((9601) * 31 + (nI ([0, 8, 0, 0, 0, 0, 0].getD 0 0)).toInt64) * 31 + (nI ([0, 8, 0, 0, 0, 0, 0].getD 1 0)).toInt64) * 31 + (nI ([0, 8, 0, 0, 0, 0, 0].getD 2 0)).toInt64) * 31 + (nI ([0, 8, 0, 0, 0, 0, 0].getD 3 0)).toInt64) * 31 + (nI ([0, 8, 0, 0, 0, 0, 0].getD 4 0)).toInt64)])), (q, .inr (1, [.int (nI 0), .ref z, .int (nI 0)]))]) hD hS hA [1, 0] rfl
  refine va_calli (va_runV (As := [.int (nI 5)]) (rest := [.ref h0]) ⟨hx, hb, hml, hown, hts⟩ (c_X10_manyNow_e l D kA z h0 q 5 (nI 0) ((((((9601) * 31 + (nI ([0, 8, 0, 0, 0, 0, 0].getD 0 0)).toInt64) * 31 + (nI ([0, 8, 0, 0, 0, 0, 0].getD 1 0)).toInt64) * 31 + (nI ([0, 8, 0, 0, 0, 0, 0].getD 2 0)).toInt64) * 31 + (nI ([0, 8, 0, 0, 0, 0, 0].getD 3 0)).toInt64) * 31 + (nI ([0, 8, 0, 0, 0, 0, 0].getD 4 0)).toInt64) (by decide) _) (cwV 1 hts h_X10_digest_e_0 rfl rfl rfl (by decide +kernel) ⟨Nat.le_of_ble_eq_true rfl, Nat.le_of_ble_eq_true rfl⟩) (fPv hK hP hD hS hG hF [1, 0] (by decide) rfl 1 11 rfl rfl rfl) rfl rfl hl.1 rfl (lv_room (Nat.le_of_ble_eq_true rfl)) dX10_digest_23 ⟨Nat.le_of_ble_eq_true rfl, Nat.le_of_ble_eq_true rfl⟩) hS (fun q _ h => hF q h) hF (fun r_6 w1 t H locs ht hvm hw hB hz1 hk1 hS => ?_)
  obtain ⟨hP, hD⟩ := fJ (wr := []) hP hD [1, 0] [] rfl rfl (by decide) (by decide) hk1 hF ht hB
  try dsimp only at hw
  obtain ⟨rfl, e_6⟩ := hw
  replace e_6 := e_6.symm
  subst e_6
  have hP : va_P D vwCl [(h0, .inr (11, [.int (nI 0), .ref q, .int (nI 8), .int (nI 0), .int (nI 0), .int (nI 0), .int (nI 0), .long ((((((9601) * 31 + (nI ([0, 8, 0, 0, 0, 0, 0].getD 0 0)).toInt64) * 31 + (nI ([0, 8, 0, 0, 0, 0, 0].getD 1 0)).toInt64) * 31 + (nI ([0, 8, 0, 0, 0, 0, 0].getD 2 0)).toInt64) * 31 + (nI ([0, 8, 0, 0, 0, 0, 0].getD 3 0)).toInt64) * 31 + (nI ([0, 8, 0, 0, 0, 0, 0].getD 4 0)).toInt64)])), (q, .inr (1, [.int (nI 0), .ref z, .int (nI 0)]))] H := hP
  have hD : va_D A [(h0, .inr (11, [.int (nI 0), .ref q, .int (nI 8), .int (nI 0), .int (nI 0), .int (nI 0), .int (nI 0), .long ((((((9601) * 31 + (nI ([0, 8, 0, 0, 0, 0, 0].getD 0 0)).toInt64) * 31 + (nI ([0, 8, 0, 0, 0, 0, 0].getD 1 0)).toInt64) * 31 + (nI ([0, 8, 0, 0, 0, 0, 0].getD 2 0)).toInt64) * 31 + (nI ([0, 8, 0, 0, 0, 0, 0].getD 3 0)).toInt64) * 31 + (nI ([0, 8, 0, 0, 0, 0, 0].getD 4 0)).toInt64)])), (q, .inr (1, [.int (nI 0), .ref z, .int (nI 0)]))] := hD
  have hF := va_free (wc := [(h0, .inr (11, [.int (nI 0), .ref q, .int (nI 8), .int (nI 0), .int (nI 0), .int (nI 0), .int (nI 0), .long ((((((9601) * 31 + (nI ([0, 8, 0, 0, 0, 0, 0].getD 0 0)).toInt64) * 31 + (nI ([0, 8, 0, 0, 0, 0, 0].getD 1 0)).toInt64) * 31 + (nI ([0, 8, 0, 0, 0, 0, 0].getD 2 0)).toInt64) * 31 + (nI ([0, 8, 0, 0, 0, 0, 0].getD 3 0)).toInt64) * 31 + (nI ([0, 8, 0, 0, 0, 0, 0].getD 4 0)).toInt64)]))]) hD hS hA [0] rfl
  refine va_callv (va_runV (As := [.int (nI ([0, 8, 0, 0, 0, 0, 0].getD 5 0))]) (rest := []) ⟨hx, hb, hml, hown, hts⟩ (c_X10_add l D kA z h0 q (nI ([0, 8, 0, 0, 0, 0, 0].getD 5 0)) (nI 0) (nI 8) (nI 0) (nI 0) (nI 0) (nI 0) ((((((9601) * 31 + (nI ([0, 8, 0, 0, 0, 0, 0].getD 0 0)).toInt64) * 31 + (nI ([0, 8, 0, 0, 0, 0, 0].getD 1 0)).toInt64) * 31 + (nI ([0, 8, 0, 0, 0, 0, 0].getD 2 0)).toInt64) * 31 + (nI ([0, 8, 0, 0, 0, 0, 0].getD 3 0)).toInt64) * 31 + (nI ([0, 8, 0, 0, 0, 0, 0].getD 4 0)).toInt64)  _) (cwV 1 hts h_X10_digest_e_1 rfl rfl rfl (by decide +kernel) ⟨Nat.le_of_ble_eq_true rfl, Nat.le_of_ble_eq_true rfl⟩) (fPv hK hP hD hS hG hF [0] (by decide) rfl 0 11 rfl rfl rfl) rfl rfl hl.1 rfl (lv_room (Nat.le_of_ble_eq_true rfl)) dX10_digest_26 ⟨Nat.le_of_ble_eq_true rfl, Nat.le_of_ble_eq_true rfl⟩) hS (fun q _ h => hF q h) hF (fun w1 t H locs ht hvm hw hB hz1 hk1 hS => ?_)
  obtain ⟨hP, hD⟩ := fJ (wr := [(q, .inr (1, [.int (nI 0), .ref z, .int (nI 0)]))]) hP hD [0] [1] rfl rfl (by decide) (by decide) hk1 hF ht hB
  try dsimp only at hw
  subst hw
  have hP : va_P D vwCl [(q, .inr (1, [.int (nI 0), .ref z, .int (nI 0)])), (h0, .inr (11, [.int (nI 0), .ref q, .int (nI 8), .int (nI 0), .int (nI 0), .int (nI 0), .int (nI 0), .long (((((((9601) * 31 + (nI ([0, 8, 0, 0, 0, 0, 0].getD 0 0)).toInt64) * 31 + (nI ([0, 8, 0, 0, 0, 0, 0].getD 1 0)).toInt64) * 31 + (nI ([0, 8, 0, 0, 0, 0, 0].getD 2 0)).toInt64) * 31 + (nI ([0, 8, 0, 0, 0, 0, 0].getD 3 0)).toInt64) * 31 + (nI ([0, 8, 0, 0, 0, 0, 0].getD 4 0)).toInt64) * 31 + (nI ([0, 8, 0, 0, 0, 0, 0].getD 5 0)).toInt64)]))] H := hP
  have hD : va_D A [(q, .inr (1, [.int (nI 0), .ref z, .int (nI 0)])), (h0, .inr (11, [.int (nI 0), .ref q, .int (nI 8), .int (nI 0), .int (nI 0), .int (nI 0), .int (nI 0), .long (((((((9601) * 31 + (nI ([0, 8, 0, 0, 0, 0, 0].getD 0 0)).toInt64) * 31 + (nI ([0, 8, 0, 0, 0, 0, 0].getD 1 0)).toInt64) * 31 + (nI ([0, 8, 0, 0, 0, 0, 0].getD 2 0)).toInt64) * 31 + (nI ([0, 8, 0, 0, 0, 0, 0].getD 3 0)).toInt64) * 31 + (nI ([0, 8, 0, 0, 0, 0, 0].getD 4 0)).toInt64) * 31 + (nI ([0, 8, 0, 0, 0, 0, 0].getD 5 0)).toInt64)]))] := hD
  refine lv_iinc (v := nI 6) (lv' := [(1, .int (nI 6)), (0, .ref h0)]) hx hb dX10_digest_29 hl (k := 0) rfl (by decide) (by decide) rfl (fun ls hl => ?_)
  refine lv_goto (tgt := 14) hx hb dX10_digest_32 (by decide) ?_
  refine lv_iload_n hx hb dX10_digest_14 rfl (lv_at hl 0 rfl) ?_
  refine lv_bipush (v := nI 7) hx hb dX10_digest_15 (by decide) ?_
  refine lv_icmp_ge (tgt := 35) hx hb dX10_digest_17 (by decide) (fun c17 => absurd c17 (by decide)) (fun _ => ?_)
  refine lv_aload_n hx hb dX10_digest_20 rfl (lv_at hl 1 rfl) ?_
  refine lv_aload_n hx hb dX10_digest_21 rfl (lv_at hl 1 rfl) ?_
  refine lv_iload_n hx hb dX10_digest_22 rfl (lv_at hl 0 rfl) ?_
  have hF := va_free (wc := [(h0, .inr (11, [.int (nI 0), .ref q, .int (nI 8), .int (nI 0), .int (nI 0), .int (nI 0), .int (nI 0), .long (((((((9601) * 31 + (nI ([0, 8, 0, 0, 0, 0, 0].getD 0 0)).toInt64) * 31 + (nI ([0, 8, 0, 0, 0, 0, 0].getD 1 0)).toInt64) * 31 + (nI ([0, 8, 0, 0, 0, 0, 0].getD 2 0)).toInt64) * 31 + (nI ([0, 8, 0, 0, 0, 0, 0].getD 3 0)).toInt64) * 31 + (nI ([0, 8, 0, 0, 0, 0, 0].getD 4 0)).toInt64) * 31 + (nI ([0, 8, 0, 0, 0, 0, 0].getD 5 0)).toInt64)])), (q, .inr (1, [.int (nI 0), .ref z, .int (nI 0)]))]) hD hS hA [1, 0] rfl
  refine va_calli (va_runV (As := [.int (nI 6)]) (rest := [.ref h0]) ⟨hx, hb, hml, hown, hts⟩ (c_X10_manyNow_e l D kA z h0 q 6 (nI 0) (((((((9601) * 31 + (nI ([0, 8, 0, 0, 0, 0, 0].getD 0 0)).toInt64) * 31 + (nI ([0, 8, 0, 0, 0, 0, 0].getD 1 0)).toInt64) * 31 + (nI ([0, 8, 0, 0, 0, 0, 0].getD 2 0)).toInt64) * 31 + (nI ([0, 8, 0, 0, 0, 0, 0].getD 3 0)).toInt64) * 31 + (nI ([0, 8, 0, 0, 0, 0, 0].getD 4 0)).toInt64) * 31 + (nI ([0, 8, 0, 0, 0, 0, 0].getD 5 0)).toInt64) (by decide) _) (cwV 1 hts h_X10_digest_e_0 rfl rfl rfl (by decide +kernel) ⟨Nat.le_of_ble_eq_true rfl, Nat.le_of_ble_eq_true rfl⟩) (fPv hK hP hD hS hG hF [1, 0] (by decide) rfl 1 11 rfl rfl rfl) rfl rfl hl.1 rfl (lv_room (Nat.le_of_ble_eq_true rfl)) dX10_digest_23 ⟨Nat.le_of_ble_eq_true rfl, Nat.le_of_ble_eq_true rfl⟩) hS (fun q _ h => hF q h) hF (fun r_7 w1 t H locs ht hvm hw hB hz1 hk1 hS => ?_)
  obtain ⟨hP, hD⟩ := fJ (wr := []) hP hD [1, 0] [] rfl rfl (by decide) (by decide) hk1 hF ht hB
  try dsimp only at hw
  obtain ⟨rfl, e_7⟩ := hw
  replace e_7 := e_7.symm
  subst e_7
  have hP : va_P D vwCl [(h0, .inr (11, [.int (nI 0), .ref q, .int (nI 8), .int (nI 0), .int (nI 0), .int (nI 0), .int (nI 0), .long (((((((9601) * 31 + (nI ([0, 8, 0, 0, 0, 0, 0].getD 0 0)).toInt64) * 31 + (nI ([0, 8, 0, 0, 0, 0, 0].getD 1 0)).toInt64) * 31 + (nI ([0, 8, 0, 0, 0, 0, 0].getD 2 0)).toInt64) * 31 + (nI ([0, 8, 0, 0, 0, 0, 0].getD 3 0)).toInt64) * 31 + (nI ([0, 8, 0, 0, 0, 0, 0].getD 4 0)).toInt64) * 31 + (nI ([0, 8, 0, 0, 0, 0, 0].getD 5 0)).toInt64)])), (q, .inr (1, [.int (nI 0), .ref z, .int (nI 0)]))] H := hP
  have hD : va_D A [(h0, .inr (11, [.int (nI 0), .ref q, .int (nI 8), .int (nI 0), .int (nI 0), .int (nI 0), .int (nI 0), .long (((((((9601) * 31 + (nI ([0, 8, 0, 0, 0, 0, 0].getD 0 0)).toInt64) * 31 + (nI ([0, 8, 0, 0, 0, 0, 0].getD 1 0)).toInt64) * 31 + (nI ([0, 8, 0, 0, 0, 0, 0].getD 2 0)).toInt64) * 31 + (nI ([0, 8, 0, 0, 0, 0, 0].getD 3 0)).toInt64) * 31 + (nI ([0, 8, 0, 0, 0, 0, 0].getD 4 0)).toInt64) * 31 + (nI ([0, 8, 0, 0, 0, 0, 0].getD 5 0)).toInt64)])), (q, .inr (1, [.int (nI 0), .ref z, .int (nI 0)]))] := hD
  have hF := va_free (wc := [(h0, .inr (11, [.int (nI 0), .ref q, .int (nI 8), .int (nI 0), .int (nI 0), .int (nI 0), .int (nI 0), .long (((((((9601) * 31 + (nI ([0, 8, 0, 0, 0, 0, 0].getD 0 0)).toInt64) * 31 + (nI ([0, 8, 0, 0, 0, 0, 0].getD 1 0)).toInt64) * 31 + (nI ([0, 8, 0, 0, 0, 0, 0].getD 2 0)).toInt64) * 31 + (nI ([0, 8, 0, 0, 0, 0, 0].getD 3 0)).toInt64) * 31 + (nI ([0, 8, 0, 0, 0, 0, 0].getD 4 0)).toInt64) * 31 + (nI ([0, 8, 0, 0, 0, 0, 0].getD 5 0)).toInt64)]))]) hD hS hA [0] rfl
  refine va_callv (va_runV (As := [.int (nI ([0, 8, 0, 0, 0, 0, 0].getD 6 0))]) (rest := []) ⟨hx, hb, hml, hown, hts⟩ (c_X10_add l D kA z h0 q (nI ([0, 8, 0, 0, 0, 0, 0].getD 6 0)) (nI 0) (nI 8) (nI 0) (nI 0) (nI 0) (nI 0) (((((((9601) * 31 + (nI ([0, 8, 0, 0, 0, 0, 0].getD 0 0)).toInt64) * 31 + (nI ([0, 8, 0, 0, 0, 0, 0].getD 1 0)).toInt64) * 31 + (nI ([0, 8, 0, 0, 0, 0, 0].getD 2 0)).toInt64) * 31 + (nI ([0, 8, 0, 0, 0, 0, 0].getD 3 0)).toInt64) * 31 + (nI ([0, 8, 0, 0, 0, 0, 0].getD 4 0)).toInt64) * 31 + (nI ([0, 8, 0, 0, 0, 0, 0].getD 5 0)).toInt64)  _) (cwV 1 hts h_X10_digest_e_1 rfl rfl rfl (by decide +kernel) ⟨Nat.le_of_ble_eq_true rfl, Nat.le_of_ble_eq_true rfl⟩) (fPv hK hP hD hS hG hF [0] (by decide) rfl 0 11 rfl rfl rfl) rfl rfl hl.1 rfl (lv_room (Nat.le_of_ble_eq_true rfl)) dX10_digest_26 ⟨Nat.le_of_ble_eq_true rfl, Nat.le_of_ble_eq_true rfl⟩) hS (fun q _ h => hF q h) hF (fun w1 t H locs ht hvm hw hB hz1 hk1 hS => ?_)
  obtain ⟨hP, hD⟩ := fJ (wr := [(q, .inr (1, [.int (nI 0), .ref z, .int (nI 0)]))]) hP hD [0] [1] rfl rfl (by decide) (by decide) hk1 hF ht hB
  try dsimp only at hw
  subst hw
  have hP : va_P D vwCl [(q, .inr (1, [.int (nI 0), .ref z, .int (nI 0)])), (h0, .inr (11, [.int (nI 0), .ref q, .int (nI 8), .int (nI 0), .int (nI 0), .int (nI 0), .int (nI 0), .long ((((((((9601) * 31 + (nI ([0, 8, 0, 0, 0, 0, 0].getD 0 0)).toInt64) * 31 + (nI ([0, 8, 0, 0, 0, 0, 0].getD 1 0)).toInt64) * 31 + (nI ([0, 8, 0, 0, 0, 0, 0].getD 2 0)).toInt64) * 31 + (nI ([0, 8, 0, 0, 0, 0, 0].getD 3 0)).toInt64) * 31 + (nI ([0, 8, 0, 0, 0, 0, 0].getD 4 0)).toInt64) * 31 + (nI ([0, 8, 0, 0, 0, 0, 0].getD 5 0)).toInt64) * 31 + (nI ([0, 8, 0, 0, 0, 0, 0].getD 6 0)).toInt64)]))] H := hP
  have hD : va_D A [(q, .inr (1, [.int (nI 0), .ref z, .int (nI 0)])), (h0, .inr (11, [.int (nI 0), .ref q, .int (nI 8), .int (nI 0), .int (nI 0), .int (nI 0), .int (nI 0), .long ((((((((9601) * 31 + (nI ([0, 8, 0, 0, 0, 0, 0].getD 0 0)).toInt64) * 31 + (nI ([0, 8, 0, 0, 0, 0, 0].getD 1 0)).toInt64) * 31 + (nI ([0, 8, 0, 0, 0, 0, 0].getD 2 0)).toInt64) * 31 + (nI ([0, 8, 0, 0, 0, 0, 0].getD 3 0)).toInt64) * 31 + (nI ([0, 8, 0, 0, 0, 0, 0].getD 4 0)).toInt64) * 31 + (nI ([0, 8, 0, 0, 0, 0, 0].getD 5 0)).toInt64) * 31 + (nI ([0, 8, 0, 0, 0, 0, 0].getD 6 0)).toInt64)]))] := hD
  refine lv_iinc (v := nI 7) (lv' := [(1, .int (nI 7)), (0, .ref h0)]) hx hb dX10_digest_29 hl (k := 0) rfl (by decide) (by decide) rfl (fun ls hl => ?_)
  refine lv_goto (tgt := 14) hx hb dX10_digest_32 (by decide) ?_
  refine lv_iload_n hx hb dX10_digest_14 rfl (lv_at hl 0 rfl) ?_
  refine lv_bipush (v := nI 7) hx hb dX10_digest_15 (by decide) ?_
  refine lv_icmp_ge (tgt := 35) hx hb dX10_digest_17 (by decide) (fun _ => ?_) (fun c17 => absurd (by decide) c17)
  refine lv_aload_n hx hb dX10_digest_35 rfl (lv_at hl 1 rfl) ?_
  refine va_get (D := D) (ci := 11) (v := .ref q) (C := RX10) (T := TX10) (N := 8) hx hb hts n_X10_digest_e_X10 hown hK hP 1 rfl rfl 1 (by decide) (wAt hts 11 (w := .fieldLink RX10 10 "FluxBenchModel" "tracks" "Ljava/util/ArrayList;") rfl) (fun _ h9 => h9) rfl dX10_digest_36 ?_
  have hF := va_free (wc := [(q, .inr (1, [.int (nI 0), .ref z, .int (nI 0)]))]) hD hS hA [0] rfl
  refine va_callr (va_runV (As := []) (rest := []) ⟨hx, hb, hml, hown, hts⟩ (c_Jx4a65c_iterator_32c93 l D kA z q 0 z 0  _) (cwV 0 hts h_X10_digest_e_2 rfl rfl rfl (by decide +kernel) ⟨Nat.le_of_ble_eq_true rfl, Nat.le_of_ble_eq_true rfl⟩) (fPv hK hP hD hS hG hF [0] (by decide) rfl 0 1 rfl rfl rfl) rfl rfl hl.1 rfl (lv_room (Nat.le_of_ble_eq_true rfl)) dX10_digest_39 ⟨Nat.le_of_ble_eq_true rfl, Nat.le_of_ble_eq_true rfl⟩) hS (fun q _ h => hF q h) hF (fun u1 ra9 t H locs ht hvm hw hB hz1 hk1 hS => ?_)
  obtain ⟨ra_1, w1⟩ := u1
  obtain ⟨e0, hB⟩ := hB
  have e0 : ra_1 = ra9 := e0
  subst e0
  obtain ⟨hP, hD⟩ := fJ (wr := [(h0, .inr (11, [.int (nI 0), .ref q, .int (nI 8), .int (nI 0), .int (nI 0), .int (nI 0), .int (nI 0), .long ((((((((9601) * 31 + (nI ([0, 8, 0, 0, 0, 0, 0].getD 0 0)).toInt64) * 31 + (nI ([0, 8, 0, 0, 0, 0, 0].getD 1 0)).toInt64) * 31 + (nI ([0, 8, 0, 0, 0, 0, 0].getD 2 0)).toInt64) * 31 + (nI ([0, 8, 0, 0, 0, 0, 0].getD 3 0)).toInt64) * 31 + (nI ([0, 8, 0, 0, 0, 0, 0].getD 4 0)).toInt64) * 31 + (nI ([0, 8, 0, 0, 0, 0, 0].getD 5 0)).toInt64) * 31 + (nI ([0, 8, 0, 0, 0, 0, 0].getD 6 0)).toInt64)]))]) hP hD [0] [1] rfl rfl (by decide) (by decide) hk1 hF ht hB
  try dsimp only at hw
  subst hw
  have hP : va_P D vwCl [(h0, .inr (11, [.int (nI 0), .ref q, .int (nI 8), .int (nI 0), .int (nI 0), .int (nI 0), .int (nI 0), .long ((((((((9601) * 31 + (nI ([0, 8, 0, 0, 0, 0, 0].getD 0 0)).toInt64) * 31 + (nI ([0, 8, 0, 0, 0, 0, 0].getD 1 0)).toInt64) * 31 + (nI ([0, 8, 0, 0, 0, 0, 0].getD 2 0)).toInt64) * 31 + (nI ([0, 8, 0, 0, 0, 0, 0].getD 3 0)).toInt64) * 31 + (nI ([0, 8, 0, 0, 0, 0, 0].getD 4 0)).toInt64) * 31 + (nI ([0, 8, 0, 0, 0, 0, 0].getD 5 0)).toInt64) * 31 + (nI ([0, 8, 0, 0, 0, 0, 0].getD 6 0)).toInt64)])), (q, .inr (1, [.int (nI 0), .ref z, .int (nI 0)])), (ra_1, .inr (0, [.int (nI 0), .int (-1), .int (nI 0), .ref q]))] H := hP
  have hD : va_D A [(h0, .inr (11, [.int (nI 0), .ref q, .int (nI 8), .int (nI 0), .int (nI 0), .int (nI 0), .int (nI 0), .long ((((((((9601) * 31 + (nI ([0, 8, 0, 0, 0, 0, 0].getD 0 0)).toInt64) * 31 + (nI ([0, 8, 0, 0, 0, 0, 0].getD 1 0)).toInt64) * 31 + (nI ([0, 8, 0, 0, 0, 0, 0].getD 2 0)).toInt64) * 31 + (nI ([0, 8, 0, 0, 0, 0, 0].getD 3 0)).toInt64) * 31 + (nI ([0, 8, 0, 0, 0, 0, 0].getD 4 0)).toInt64) * 31 + (nI ([0, 8, 0, 0, 0, 0, 0].getD 5 0)).toInt64) * 31 + (nI ([0, 8, 0, 0, 0, 0, 0].getD 6 0)).toInt64)])), (q, .inr (1, [.int (nI 0), .ref z, .int (nI 0)])), (ra_1, .inr (0, [.int (nI 0), .int (-1), .int (nI 0), .ref q]))] := hD
  refine lv_astore_n (lv' := [(1, .ref ra_1), (0, .ref h0)]) hx hb dX10_digest_42 rfl hl (by decide) rfl (fun ls hl => ?_)
  refine lv_aload_n hx hb dX10_digest_43 rfl (lv_at hl 0 rfl) ?_
  have hF := va_free (wc := [(ra_1, .inr (0, [.int (nI 0), .int (-1), .int (nI 0), .ref q])), (q, .inr (1, [.int (nI 0), .ref z, .int (nI 0)]))]) hD hS hA [2, 1] rfl
  refine va_callFi (va_runF (hK.1 0 _ rfl).2 (As := []) (rest := []) ⟨hx, hb, hml, hown, hts⟩ (c_Jx35411_hasNext_aae02_no l D kA z ra_1 0 0 q z 0 (-1) (by decide) (by decide) rfl _) (va_cwF 0 hts h_X10_digest_e_3 rfl rfl rfl hG.2.2.2.2.2.2.1 (by decide +kernel) ⟨Nat.le_of_ble_eq_true rfl, Nat.le_of_ble_eq_true rfl⟩) (fPv hK hP hD hS hG hF [2, 1] (by decide) rfl 2 0 rfl rfl rfl) rfl rfl hl.1 rfl (lv_room (Nat.le_of_ble_eq_true rfl)) dX10_digest_44 ⟨Nat.le_of_ble_eq_true rfl, Nat.le_of_ble_eq_true rfl⟩) hS (fun q _ h => hF q h) hF (fun r_8 w1 t H locs ht hvm hw hB hz1 hk1 hS => ?_)
  obtain ⟨hP, hD⟩ := fJ (wr := [(h0, .inr (11, [.int (nI 0), .ref q, .int (nI 8), .int (nI 0), .int (nI 0), .int (nI 0), .int (nI 0), .long ((((((((9601) * 31 + (nI ([0, 8, 0, 0, 0, 0, 0].getD 0 0)).toInt64) * 31 + (nI ([0, 8, 0, 0, 0, 0, 0].getD 1 0)).toInt64) * 31 + (nI ([0, 8, 0, 0, 0, 0, 0].getD 2 0)).toInt64) * 31 + (nI ([0, 8, 0, 0, 0, 0, 0].getD 3 0)).toInt64) * 31 + (nI ([0, 8, 0, 0, 0, 0, 0].getD 4 0)).toInt64) * 31 + (nI ([0, 8, 0, 0, 0, 0, 0].getD 5 0)).toInt64) * 31 + (nI ([0, 8, 0, 0, 0, 0, 0].getD 6 0)).toInt64)]))]) hP hD [2, 1] [0] rfl rfl (by decide) (by decide) hk1 hF ht hB
  try dsimp only at hw
  obtain ⟨rfl, e_8⟩ := hw
  replace e_8 := e_8.symm
  subst e_8
  have hP : va_P D vwCl [(h0, .inr (11, [.int (nI 0), .ref q, .int (nI 8), .int (nI 0), .int (nI 0), .int (nI 0), .int (nI 0), .long ((((((((9601) * 31 + (nI ([0, 8, 0, 0, 0, 0, 0].getD 0 0)).toInt64) * 31 + (nI ([0, 8, 0, 0, 0, 0, 0].getD 1 0)).toInt64) * 31 + (nI ([0, 8, 0, 0, 0, 0, 0].getD 2 0)).toInt64) * 31 + (nI ([0, 8, 0, 0, 0, 0, 0].getD 3 0)).toInt64) * 31 + (nI ([0, 8, 0, 0, 0, 0, 0].getD 4 0)).toInt64) * 31 + (nI ([0, 8, 0, 0, 0, 0, 0].getD 5 0)).toInt64) * 31 + (nI ([0, 8, 0, 0, 0, 0, 0].getD 6 0)).toInt64)])), (ra_1, .inr (0, [.int (nI 0), .int (-1), .int (nI 0), .ref q])), (q, .inr (1, [.int (nI 0), .ref z, .int (nI 0)]))] H := hP
  have hD : va_D A [(h0, .inr (11, [.int (nI 0), .ref q, .int (nI 8), .int (nI 0), .int (nI 0), .int (nI 0), .int (nI 0), .long ((((((((9601) * 31 + (nI ([0, 8, 0, 0, 0, 0, 0].getD 0 0)).toInt64) * 31 + (nI ([0, 8, 0, 0, 0, 0, 0].getD 1 0)).toInt64) * 31 + (nI ([0, 8, 0, 0, 0, 0, 0].getD 2 0)).toInt64) * 31 + (nI ([0, 8, 0, 0, 0, 0, 0].getD 3 0)).toInt64) * 31 + (nI ([0, 8, 0, 0, 0, 0, 0].getD 4 0)).toInt64) * 31 + (nI ([0, 8, 0, 0, 0, 0, 0].getD 5 0)).toInt64) * 31 + (nI ([0, 8, 0, 0, 0, 0, 0].getD 6 0)).toInt64)])), (ra_1, .inr (0, [.int (nI 0), .int (-1), .int (nI 0), .ref q])), (q, .inr (1, [.int (nI 0), .ref z, .int (nI 0)]))] := hD
  refine lv_if_eq (tgt := 237) hx hb dX10_digest_49 (by decide) (fun _ => ?_) (fun c49 => absurd (by decide) c49)
  refine lv_aload_n hx hb dX10_digest_237 rfl (lv_at hl 1 rfl) ?_
  refine va_get (D := D) (ci := 11) (v := .long ((((((((9601) * 31 + (nI ([0, 8, 0, 0, 0, 0, 0].getD 0 0)).toInt64) * 31 + (nI ([0, 8, 0, 0, 0, 0, 0].getD 1 0)).toInt64) * 31 + (nI ([0, 8, 0, 0, 0, 0, 0].getD 2 0)).toInt64) * 31 + (nI ([0, 8, 0, 0, 0, 0, 0].getD 3 0)).toInt64) * 31 + (nI ([0, 8, 0, 0, 0, 0, 0].getD 4 0)).toInt64) * 31 + (nI ([0, 8, 0, 0, 0, 0, 0].getD 5 0)).toInt64) * 31 + (nI ([0, 8, 0, 0, 0, 0, 0].getD 6 0)).toInt64)) (C := RX10) (T := TX10) (N := 8) hx hb hts n_X10_digest_e_X10 hown hK hP 0 rfl rfl 7 (by decide) (wAt hts 3 (w := .fieldLink RX10 247 "FluxBenchModel" "sum" "J") rfl) (fun _ h9 => h9) rfl dX10_digest_238 ?_
  have hP := hP.sub (ws' := [(h0, .inr (11, [.int (nI 0), .ref q, .int (nI 8), .int (nI 0), .int (nI 0), .int (nI 0), .int (nI 0), .long ((((((((9601) * 31 + (nI ([0, 8, 0, 0, 0, 0, 0].getD 0 0)).toInt64) * 31 + (nI ([0, 8, 0, 0, 0, 0, 0].getD 1 0)).toInt64) * 31 + (nI ([0, 8, 0, 0, 0, 0, 0].getD 2 0)).toInt64) * 31 + (nI ([0, 8, 0, 0, 0, 0, 0].getD 3 0)).toInt64) * 31 + (nI ([0, 8, 0, 0, 0, 0, 0].getD 4 0)).toInt64) * 31 + (nI ([0, 8, 0, 0, 0, 0, 0].getD 5 0)).toInt64) * 31 + (nI ([0, 8, 0, 0, 0, 0, 0].getD 6 0)).toInt64)])), (q, .inr (1, [.int (nI 0), .ref z, .int (nI 0)]))]) [0, 2] rfl
  have hD := hD.sub (ws' := [(h0, .inr (11, [.int (nI 0), .ref q, .int (nI 8), .int (nI 0), .int (nI 0), .int (nI 0), .int (nI 0), .long ((((((((9601) * 31 + (nI ([0, 8, 0, 0, 0, 0, 0].getD 0 0)).toInt64) * 31 + (nI ([0, 8, 0, 0, 0, 0, 0].getD 1 0)).toInt64) * 31 + (nI ([0, 8, 0, 0, 0, 0, 0].getD 2 0)).toInt64) * 31 + (nI ([0, 8, 0, 0, 0, 0, 0].getD 3 0)).toInt64) * 31 + (nI ([0, 8, 0, 0, 0, 0, 0].getD 4 0)).toInt64) * 31 + (nI ([0, 8, 0, 0, 0, 0, 0].getD 5 0)).toInt64) * 31 + (nI ([0, 8, 0, 0, 0, 0, 0].getD 6 0)).toInt64)])), (q, .inr (1, [.int (nI 0), .ref z, .int (nI 0)]))]) [0, 2] (by decide) rfl
  exact endL hx hb hr hlocks hK hP hD hS (⟨((((((((9601) * 31 + (nI ([0, 8, 0, 0, 0, 0, 0].getD 0 0)).toInt64) * 31 + (nI ([0, 8, 0, 0, 0, 0, 0].getD 1 0)).toInt64) * 31 + (nI ([0, 8, 0, 0, 0, 0, 0].getD 2 0)).toInt64) * 31 + (nI ([0, 8, 0, 0, 0, 0, 0].getD 3 0)).toInt64) * 31 + (nI ([0, 8, 0, 0, 0, 0, 0].getD 4 0)).toInt64) * 31 + (nI ([0, 8, 0, 0, 0, 0, 0].getD 5 0)).toInt64) * 31 + (nI ([0, 8, 0, 0, 0, 0, 0].getD 6 0)).toInt64), rfl, by decide +kernel⟩) (Nat.le_of_ble_eq_true rfl) (Nat.le_of_ble_eq_true rfl) dX10_digest_241

