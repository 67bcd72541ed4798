def wq_J9_floorMod_7cf53 : List Cond := .code yJ9_floorMod_7cf53 cJ9_floorMod_7cf53 3 (some .int) :: (([] : List Cond) ++ ([] : List Cond))
theorem gd_J9_floorMod_7cf53 : wq_J9_floorMod_7cf53.all goodWord = true := by decide +kernel
set_option maxHeartbeats 4000000 in
set_option maxRecDepth 100000 in
theorem c_J9_floorMod_7cf53 (l : Launch) (D : va_G) (kA : Nat → ClassId) (z : Nat) (x : Nat) (ha : x ≤ 5) : mI l D (tyL kA) z yJ9_floorMod_7cf53 wq_J9_floorMod_7cf53 ({ frames := 0, cells := 0, slots := 0, locals := 0 }) [.int (nI x), .int (nI 3)] [] (fun r w => w = [] ∧ (r = nI (x % 3))) := by
  refine ofFI (cc := cJ9_floorMod_7cf53) (maxL := 3) RJ9 rfl (by decide +kernel) rfl (Nat.le_of_ble_eq_true rfl) ?_
  intro p e s m args below meth c A ls hE
  obtain ⟨hx, hb, hr, hml, hts, hown, hlocks, hA, hS, hP, hK, hD, hG, hl⟩ := hE
  have hl : lv_has ls 3 [(0, .int (nI x)), (1, .int (nI 3))] := hl
  have hH : s.heap = s.heap := rfl
  refine lv_iload_n hx hb dJ9_floorMod_7cf53_0 rfl (lv_at hl 0 rfl) ?_
  refine lv_iload_n hx hb dJ9_floorMod_7cf53_1 rfl (lv_at hl 1 rfl) ?_
  refine lv_irem hx hb dJ9_floorMod_7cf53_2 (by decide) ?_
  rw [pk_rem (a := x) (d := 3) (by omega) (by omega) (by omega)]
  refine lv_istore_n (lv' := [(2, .int (nI (x % 3))), (0, .int (nI x)), (1, .int (nI 3))]) hx hb dJ9_floorMod_7cf53_3 rfl hl (by decide) rfl (fun ls hl => ?_)
  refine lv_iload_n hx hb dJ9_floorMod_7cf53_4 rfl (lv_at hl 1 rfl) ?_
  refine lv_iload_n hx hb dJ9_floorMod_7cf53_5 rfl (lv_at hl 2 rfl) ?_
  refine lv_ixor hx hb dJ9_floorMod_7cf53_6 ?_
  refine lv_if_ge (tgt := 18) hx hb dJ9_floorMod_7cf53_7 (by decide) (fun _ => ?_) (fun c7 => absurd (xor3 ha) c7)
  refine lv_iload_n hx hb dJ9_floorMod_7cf53_18 rfl (lv_at hl 0 rfl) ?_
  exact endI hx hb hr hlocks hK hP hD hS (⟨rfl, by first | rfl | assumption | omega | (rw [if_pos (by omega)]; first | done | rfl) | (rw [if_neg (by omega)]; first | done | rfl)⟩) (Nat.le_of_ble_eq_true rfl) (Nat.le_of_ble_eq_true rfl) dJ9_floorMod_7cf53_19

def wq_X4_findsBy : List Cond := .code yX4_findsBy cX4_findsBy 2 (some (.object "FluxBench$Finds")) :: (([.fieldLink RX4 32 "FluxBench$Track" "findsOfPairs" "LFluxBench$Finds;", .fieldLink RX4 36 "FluxBench$Track" "findsOfGroups" "LFluxBench$Finds;"] : List Cond) ++ (u_ws RX4 TX4 12 ++ ([] : List Cond)))
theorem gd_X4_findsBy : wq_X4_findsBy.all goodWord = true := by decide +kernel
theorem n_X4_findsBy_X4 : ∀ w ∈ u_ws RX4 TX4 12, w ∈ wq_X4_findsBy := fun w h => List.mem_cons_of_mem _ (List.mem_append_right _ (List.mem_append_left _ h))
set_option maxHeartbeats 4000000 in
set_option maxRecDepth 100000 in
theorem c_X4_findsBy (l : Launch) (D : va_G) (kA : Nat → ClassId) (z : Nat) (h0 su vo fp fg t0 t1 t2 : Nat) (cd tc un rd old : Nat) (ac : Nat) (hac : ac ≤ 2) : mR l D (tyL kA) z yX4_findsBy wq_X4_findsBy ({ frames := 0, cells := 0, slots := 0, locals := 0 }) [.ref h0, .int (nI ac)] [(h0, .inr (3, [.ref su, .ref vo, .ref fp, .ref fg, .ref t0, .ref t1, .ref t2, .int (nI cd), .int (nI tc), .int (nI un), .int (nI rd), .int (nI old)]))] (fun r w => w = [(h0, .inr (3, [.ref su, .ref vo, .ref fp, .ref fg, .ref t0, .ref t1, .ref t2, .int (nI cd), .int (nI tc), .int (nI un), .int (nI rd), .int (nI old)]))] ∧ (r = (if ac = 2 then fg else fp))) := by
  refine ofR (cc := cX4_findsBy) (maxL := 2) RX4 rfl (by decide +kernel) rfl (Nat.le_of_ble_eq_true rfl) ?_
  intro p e s m args below meth c A ls hE
  obtain ⟨hx, hb, hr, hml, hts, hown, hlocks, hA, hS, hP, hK, hD, hG, hl⟩ := hE
  have hl : lv_has ls 2 [(0, .ref h0), (1, .int (nI ac))] := hl
  have hH : s.heap = s.heap := rfl
  refine lv_iload_n hx hb dX4_findsBy_0 rfl (lv_at hl 1 rfl) ?_
  refine lv_iconst (v := nI 2) hx hb dX4_findsBy_1 (by decide) ?_
  refine lv_icmp_ne (tgt := 12) hx hb dX4_findsBy_2 (by decide) (fun c2 => ?_) (fun c2 => ?_)
  ·
    rw [qeq (a := ac) (b := 2) (by omega) (by omega)] at c2
    refine lv_aload_n hx hb dX4_findsBy_12 rfl (lv_at hl 0 rfl) ?_
    refine va_get (D := D) (ci := 3) (v := .ref fp) (C := RX4) (T := TX4) (N := 12) hx hb hts n_X4_findsBy_X4 hown hK hP 0 rfl rfl 2 (by decide) (wAt hts 1 (w := .fieldLink RX4 32 "FluxBench$Track" "findsOfPairs" "LFluxBench$Finds;") rfl) (fun _ h9 => h9) rfl dX4_findsBy_13 ?_
    exact endR (post := fun r w => w = [(h0, .inr (3, [.ref su, .ref vo, .ref fp, .ref fg, .ref t0, .ref t1, .ref t2, .int (nI cd), .int (nI tc), .int (nI un), .int (nI rd), .int (nI old)]))] ∧ (r = (if ac = 2 then fg else fp))) hx hb hr (Or.inl ⟨_, rfl⟩) hlocks hK hP hD hS (⟨rfl, by first | exact (if_pos c2).symm | exact (if_neg c2).symm⟩) (Nat.le_of_ble_eq_true rfl) (Nat.le_of_ble_eq_true rfl) dX4_findsBy_16
  ·
    rw [qeq (a := ac) (b := 2) (by omega) (by omega)] at c2
    refine lv_aload_n hx hb dX4_findsBy_5 rfl (lv_at hl 0 rfl) ?_
    refine va_get (D := D) (ci := 3) (v := .ref fg) (C := RX4) (T := TX4) (N := 12) hx hb hts n_X4_findsBy_X4 hown hK hP 0 rfl rfl 3 (by decide) (wAt hts 2 (w := .fieldLink RX4 36 "FluxBench$Track" "findsOfGroups" "LFluxBench$Finds;") rfl) (fun _ h9 => h9) rfl dX4_findsBy_6 ?_
    refine lv_goto (tgt := 16) hx hb dX4_findsBy_9 (by decide) ?_
    exact endR (post := fun r w => w = [(h0, .inr (3, [.ref su, .ref vo, .ref fp, .ref fg, .ref t0, .ref t1, .ref t2, .int (nI cd), .int (nI tc), .int (nI un), .int (nI rd), .int (nI old)]))] ∧ (r = (if ac = 2 then fg else fp))) hx hb hr (Or.inl ⟨_, rfl⟩) hlocks hK hP hD hS (⟨rfl, by first | exact (if_pos c2).symm | exact (if_neg c2).symm⟩) (Nat.le_of_ble_eq_true rfl) (Nat.le_of_ble_eq_true rfl) dX4_findsBy_16

def wq_X4_finds : List Cond := .code yX4_finds cX4_finds 1 (some (.object "FluxBench$Finds")) :: (([.fieldLink RX4 65 "FluxBench$Track" "code" "I", .methodLink RX4 68 yX4_findsBy, .instanceMethod yX4_findsBy, .selects RX4 yX4_findsBy yX4_findsBy, .initialized RX4] : List Cond) ++ (u_ws RX4 TX4 12 ++ (wq_X4_findsBy ++ ([] : List Cond))))
theorem gd_X4_finds : wq_X4_finds.all goodWord = true := by decide +kernel
theorem n_X4_finds_X4 : ∀ w ∈ u_ws RX4 TX4 12, w ∈ wq_X4_finds := fun w h => List.mem_cons_of_mem _ (List.mem_append_right _ (List.mem_append_left _ h))
theorem h_X4_finds_0 : GoodIn wq_X4_finds (wsV RX4 68 RX4 yX4_findsBy wq_X4_findsBy) := goodIn_app (goodIn_r _ [2, 3, 4, 5] (by decide +kernel) (by decide +kernel)) (goodIn_sub (fun w h => List.mem_cons_of_mem _ (List.mem_append_right _ (List.mem_append_right _ (List.mem_append_left _ h)))) gd_X4_findsBy)
set_option maxHeartbeats 4000000 in
set_option maxRecDepth 100000 in
theorem c_X4_finds (l : Launch) (D : va_G) (kA : Nat → ClassId) (z : Nat) (h0 su vo fp fg t0 t1 t2 : Nat) (cd tc un rd old : Nat) (hcd : cd ≤ 2) : mR l D (tyL kA) z yX4_finds wq_X4_finds ({ frames := 1, cells := 0, slots := 0, locals := 21 }) [.ref h0] [(h0, .inr (3, [.ref su, .ref vo, .ref fp, .ref fg, .ref t0, .ref t1, .ref t2, .int (nI cd), .int (nI tc), .int (nI un), .int (nI rd), .int (nI old)]))] (fun r w => w = [(h0, .inr (3, [.ref su, .ref vo, .ref fp, .ref fg, .ref t0, .ref t1, .ref t2, .int (nI cd), .int (nI tc), .int (nI un), .int (nI rd), .int (nI old)]))] ∧ (r = (if cd = 2 then fg else fp))) := by
  refine ofR (cc := cX4_finds) (maxL := 1) RX4 rfl (by decide +kernel) rfl (Nat.le_of_ble_eq_true rfl) ?_
  intro p e s m args below meth c A ls hE
  obtain ⟨hx, hb, hr, hml, hts, hown, hlocks, hA, hS, hP, hK, hD, hG, hl⟩ := hE
  have hl : lv_has ls 1 [(0, .ref h0)] := hl
  have hH : s.heap = s.heap := rfl
  refine lv_aload_n hx hb dX4_finds_0 rfl (lv_at hl 0 rfl) ?_
  refine lv_aload_n hx hb dX4_finds_1 rfl (lv_at hl 0 rfl) ?_
  refine va_get (D := D) (ci := 3) (v := .int (nI cd)) (C := RX4) (T := TX4) (N := 12) hx hb hts n_X4_finds_X4 hown hK hP 0 rfl rfl 7 (by decide) (wAt hts 1 (w := .fieldLink RX4 65 "FluxBench$Track" "code" "I") rfl) (fun _ h9 => h9) rfl dX4_finds_2 ?_
  have hF := va_free (wc := [(h0, .inr (3, [.ref su, .ref vo, .ref fp, .ref fg, .ref t0, .ref t1, .ref t2, .int (nI cd), .int (nI tc), .int (nI un), .int (nI rd), .int (nI old)]))]) hD hS hA [0] rfl
  refine va_callr (va_runV (As := [.int (nI cd)]) (rest := []) ⟨hx, hb, hml, hown, hts⟩ (c_X4_findsBy l D kA z h0 su vo fp fg t0 t1 t2 cd tc un rd old cd (by first | assumption | omega) _) (cwV 1 hts h_X4_finds_0 rfl rfl rfl (by decide +kernel) ⟨Nat.le_of_ble_eq_true rfl, Nat.le_of_ble_eq_true rfl⟩) (fPv hK hP hD hS hG hF [0] (by decide) rfl 0 3 rfl rfl rfl) rfl rfl hl.1 rfl (lv_room (Nat.le_of_ble_eq_true rfl)) dX4_finds_5 ⟨Nat.le_of_ble_eq_true rfl, Nat.le_of_ble_eq_true rfl⟩) hS (fun q _ h => hF q h) hF (fun u1 ra9 t H locs ht hvm hw hB hz1 hk1 hS => ?_)
  obtain ⟨ra_1, w1⟩ := u1
  obtain ⟨e0, hB⟩ := hB
  have e0 : ra_1 = ra9 := e0
  subst e0
  obtain ⟨hP, hD⟩ := fJ (wr := []) hP hD [0] [] rfl rfl (by decide) (by decide) hk1 hF ht hB
  try dsimp only at hw
  obtain ⟨rfl, ef_1⟩ := hw
  have hP : va_P D vwCl [(h0, .inr (3, [.ref su, .ref vo, .ref fp, .ref fg, .ref t0, .ref t1, .ref t2, .int (nI cd), .int (nI tc), .int (nI un), .int (nI rd), .int (nI old)]))] H := hP
  have hD : va_D A [(h0, .inr (3, [.ref su, .ref vo, .ref fp, .ref fg, .ref t0, .ref t1, .ref t2, .int (nI cd), .int (nI tc), .int (nI un), .int (nI rd), .int (nI old)]))] := hD
  exact endR (post := fun r w => w = [(h0, .inr (3, [.ref su, .ref vo, .ref fp, .ref fg, .ref t0, .ref t1, .ref t2, .int (nI cd), .int (nI tc), .int (nI un), .int (nI rd), .int (nI old)]))] ∧ (r = (if cd = 2 then fg else fp))) hx hb hr (Or.inl ⟨_, rfl⟩) hlocks hK hP hD hS (⟨rfl, by first | rfl | assumption | omega | (rw [if_pos (by omega)]; first | done | rfl) | (rw [if_neg (by omega)]; first | done | rfl)⟩) (Nat.le_of_ble_eq_true rfl) (Nat.le_of_ble_eq_true rfl) dX4_finds_8

def wq_X4_turnAt : List Cond := .code yX4_turnAt cX4_turnAt 2 (some (.object "FluxBench$Turn")) :: (([.fieldLink RX4 62 "FluxBench$Track" "oldest" "I", .methodLink RX4 72 yJ9_floorMod_7cf53, .static yJ9_floorMod_7cf53, .initialized RJ9, .fieldLink RX4 42 "FluxBench$Track" "turn0" "LFluxBench$Turn;", .fieldLink RX4 46 "FluxBench$Track" "turn1" "LFluxBench$Turn;", .fieldLink RX4 49 "FluxBench$Track" "turn2" "LFluxBench$Turn;"] : List Cond) ++ (u_ws RX4 TX4 12 ++ (wq_J9_floorMod_7cf53 ++ ([] : List Cond))))
theorem gd_X4_turnAt : wq_X4_turnAt.all goodWord = true := by decide +kernel
theorem n_X4_turnAt_X4 : ∀ w ∈ u_ws RX4 TX4 12, w ∈ wq_X4_turnAt := fun w h => List.mem_cons_of_mem _ (List.mem_append_right _ (List.mem_append_left _ h))
theorem h_X4_turnAt_0 : GoodIn wq_X4_turnAt (va_wsS RX4 72 yJ9_floorMod_7cf53 wq_J9_floorMod_7cf53) := goodIn_app (goodIn_r _ [2, 3, 4] (by decide +kernel) (by decide +kernel)) (goodIn_sub (fun w h => List.mem_cons_of_mem _ (List.mem_append_right _ (List.mem_append_right _ (List.mem_append_left _ h)))) gd_J9_floorMod_7cf53)
set_option maxHeartbeats 4000000 in
set_option maxRecDepth 100000 in
theorem c_X4_turnAt (l : Launch) (D : va_G) (kA : Nat → ClassId) (z : Nat) (h0 su vo fp fg t0 t1 t2 : Nat) (cd tc un rd old : Nat) (ag : Nat) (hag : ag ≤ 2) (hold : old ≤ 2) : mR l D (tyL kA) z yX4_turnAt wq_X4_turnAt ({ frames := 1, cells := 0, slots := 0, locals := 22 }) [.ref h0, .int (nI ag)] [(h0, .inr (3, [.ref su, .ref vo, .ref fp, .ref fg, .ref t0, .ref t1, .ref t2, .int (nI cd), .int (nI tc), .int (nI un), .int (nI rd), .int (nI old)]))] (fun r w => w = [(h0, .inr (3, [.ref su, .ref vo, .ref fp, .ref fg, .ref t0, .ref t1, .ref t2, .int (nI cd), .int (nI tc), .int (nI un), .int (nI rd), .int (nI old)]))] ∧ (r = tuS t0 t1 t2 ((old + ag) % 3))) := by
  refine ofR (cc := cX4_turnAt) (maxL := 2) RX4 rfl (by decide +kernel) rfl (Nat.le_of_ble_eq_true rfl) ?_
  intro p e s m args below meth c A ls hE
  obtain ⟨hx, hb, hr, hml, hts, hown, hlocks, hA, hS, hP, hK, hD, hG, hl⟩ := hE
  have hl : lv_has ls 2 [(0, .ref h0), (1, .int (nI ag))] := hl
  have hH : s.heap = s.heap := rfl
  refine lv_aload_n hx hb dX4_turnAt_0 rfl (lv_at hl 0 rfl) ?_
  refine va_get (D := D) (ci := 3) (v := .int (nI old)) (C := RX4) (T := TX4) (N := 12) hx hb hts n_X4_turnAt_X4 hown hK hP 0 rfl rfl 11 (by decide) (wAt hts 1 (w := .fieldLink RX4 62 "FluxBench$Track" "oldest" "I") rfl) (fun _ h9 => h9) rfl dX4_turnAt_1 ?_
  refine lv_iload_n hx hb dX4_turnAt_4 rfl (lv_at hl 1 rfl) ?_
  refine lv_iadd hx hb dX4_turnAt_5 ?_
  rw [nI_add old ag]
  refine lv_iconst (v := nI 3) hx hb dX4_turnAt_6 (by decide) ?_
  have hF := va_free (wc := []) hD hS hA [] rfl
  refine va_calli (va_runS (As := [.int (nI (old + ag)), .int (nI 3)]) (rest := []) ⟨hx, hb, hml, hown, hts⟩ (c_J9_floorMod_7cf53 l D kA z (old + ag) (by first | assumption | omega) _) (va_cwS 2 hts h_X4_turnAt_0 rfl rfl rfl (by decide +kernel) ⟨Nat.le_of_ble_eq_true rfl, Nat.le_of_ble_eq_true rfl⟩) (fPs hK hP hD hS hG hF [] (by decide) rfl) rfl rfl hl.1 rfl (lv_room (Nat.le_of_ble_eq_true rfl)) dX4_turnAt_7 ⟨Nat.le_of_ble_eq_true rfl, Nat.le_of_ble_eq_true rfl⟩) hS (fun q _ h => hF q h) hF (fun r_1 w1 t H locs ht hvm hw hB hz1 hk1 hS => ?_)
  obtain ⟨hP, hD⟩ := fJ (wr := [(h0, .inr (3, [.ref su, .ref vo, .ref fp, .ref fg, .ref t0, .ref t1, .ref t2, .int (nI cd), .int (nI tc), .int (nI un), .int (nI rd), .int (nI old)]))]) hP hD [] [0] rfl rfl (by decide) (by decide) hk1 hF ht hB
  try dsimp only at hw
  obtain ⟨rfl, e_1⟩ := hw
  replace e_1 := e_1.symm
  subst e_1
  have hP : va_P D vwCl [(h0, .inr (3, [.ref su, .ref vo, .ref fp, .ref fg, .ref t0, .ref t1, .ref t2, .int (nI cd), .int (nI tc), .int (nI un), .int (nI rd), .int (nI old)]))] H := hP
  have hD : va_D A [(h0, .inr (3, [.ref su, .ref vo, .ref fp, .ref fg, .ref t0, .ref t1, .ref t2, .int (nI cd), .int (nI tc), .int (nI un), .int (nI rd), .int (nI old)]))] := hD
  rcases mod3 (old + ag) with k10 | k10 | k10
  ·
    refine W.eq (g2 := F0 m 10 ls [(.int (nI 0))]) (by rw [k10]) ?_
    refine lv_lookup (off := 26) (tgt := 36) hx hb dX4_turnAt_10 (by decide) (by decide) (by decide) ?_
    refine lv_aload_n hx hb dX4_turnAt_36 rfl (lv_at hl 0 rfl) ?_
    refine va_get (D := D) (ci := 3) (v := .ref t0) (C := RX4) (T := TX4) (N := 12) hx hb hts n_X4_turnAt_X4 hown hK hP 0 rfl rfl 4 (by decide) (wAt hts 5 (w := .fieldLink RX4 42 "FluxBench$Track" "turn0" "LFluxBench$Turn;") rfl) (fun _ h9 => h9) rfl dX4_turnAt_37 ?_
    exact endR (post := fun r w => w = [(h0, .inr (3, [.ref su, .ref vo, .ref fp, .ref fg, .ref t0, .ref t1, .ref t2, .int (nI cd), .int (nI tc), .int (nI un), .int (nI rd), .int (nI old)]))] ∧ (r = tuS t0 t1 t2 ((old + ag) % 3))) hx hb hr (Or.inl ⟨_, rfl⟩) hlocks hK hP hD hS (⟨rfl, by rw [k10]; rfl⟩) (Nat.le_of_ble_eq_true rfl) (Nat.le_of_ble_eq_true rfl) dX4_turnAt_40
  ·
    refine W.eq (g2 := F0 m 10 ls [(.int (nI 1))]) (by rw [k10]) ?_
    refine lv_lookup (off := 31) (tgt := 41) hx hb dX4_turnAt_10 (by decide) (by decide) (by decide) ?_
    refine lv_aload_n hx hb dX4_turnAt_41 rfl (lv_at hl 0 rfl) ?_
    refine va_get (D := D) (ci := 3) (v := .ref t1) (C := RX4) (T := TX4) (N := 12) hx hb hts n_X4_turnAt_X4 hown hK hP 0 rfl rfl 5 (by decide) (wAt hts 6 (w := .fieldLink RX4 46 "FluxBench$Track" "turn1" "LFluxBench$Turn;") rfl) (fun _ h9 => h9) rfl dX4_turnAt_42 ?_
    exact endR (post := fun r w => w = [(h0, .inr (3, [.ref su, .ref vo, .ref fp, .ref fg, .ref t0, .ref t1, .ref t2, .int (nI cd), .int (nI tc), .int (nI un), .int (nI rd), .int (nI old)]))] ∧ (r = tuS t0 t1 t2 ((old + ag) % 3))) hx hb hr (Or.inl ⟨_, rfl⟩) hlocks hK hP hD hS (⟨rfl, by rw [k10]; rfl⟩) (Nat.le_of_ble_eq_true rfl) (Nat.le_of_ble_eq_true rfl) dX4_turnAt_45
  ·
    refine W.eq (g2 := F0 m 10 ls [(.int (nI 2))]) (by rw [k10]) ?_
    refine lv_lookup (off := 36) (tgt := 46) hx hb dX4_turnAt_10 (by decide) (by decide) (by decide) ?_
    refine lv_aload_n hx hb dX4_turnAt_46 rfl (lv_at hl 0 rfl) ?_
    refine va_get (D := D) (ci := 3) (v := .ref t2) (C := RX4) (T := TX4) (N := 12) hx hb hts n_X4_turnAt_X4 hown hK hP 0 rfl rfl 6 (by decide) (wAt hts 7 (w := .fieldLink RX4 49 "FluxBench$Track" "turn2" "LFluxBench$Turn;") rfl) (fun _ h9 => h9) rfl dX4_turnAt_47 ?_
    exact endR (post := fun r w => w = [(h0, .inr (3, [.ref su, .ref vo, .ref fp, .ref fg, .ref t0, .ref t1, .ref t2, .int (nI cd), .int (nI tc), .int (nI un), .int (nI rd), .int (nI old)]))] ∧ (r = tuS t0 t1 t2 ((old + ag) % 3))) hx hb hr (Or.inl ⟨_, rfl⟩) hlocks hK hP hD hS (⟨rfl, by rw [k10]; rfl⟩) (Nat.le_of_ble_eq_true rfl) (Nat.le_of_ble_eq_true rfl) dX4_turnAt_50

def wq_X4_latestTurn : List Cond := .code yX4_latestTurn cX4_latestTurn 1 (some (.object "FluxBench$Turn")) :: (([.fieldLink RX4 52 "FluxBench$Track" "turnCount" "I", .methodLink RX4 78 yX4_turnAt, .instanceMethod yX4_turnAt, .selects RX4 yX4_turnAt yX4_turnAt, .initialized RX4] : List Cond) ++ (u_ws RX4 TX4 12 ++ (wq_X4_turnAt ++ ([] : List Cond))))
theorem gd_X4_latestTurn : wq_X4_latestTurn.all goodWord = true := by decide +kernel
theorem n_X4_latestTurn_X4 : ∀ w ∈ u_ws RX4 TX4 12, w ∈ wq_X4_latestTurn := fun w h => List.mem_cons_of_mem _ (List.mem_append_right _ (List.mem_append_left _ h))
theorem h_X4_latestTurn_0 : GoodIn wq_X4_latestTurn (wsV RX4 78 RX4 yX4_turnAt wq_X4_turnAt) := goodIn_app (goodIn_r _ [2, 3, 4, 5] (by decide +kernel) (by decide +kernel)) (goodIn_sub (fun w h => List.mem_cons_of_mem _ (List.mem_append_right _ (List.mem_append_right _ (List.mem_append_left _ h)))) gd_X4_turnAt)
set_option maxHeartbeats 4000000 in
set_option maxRecDepth 100000 in
theorem c_X4_latestTurn (l : Launch) (D : va_G) (kA : Nat → ClassId) (z : Nat) (h0 su vo fp fg t0 t1 t2 : Nat) (cd tc un rd old : Nat) (htc : 1 ≤ tc) (htc3 : tc ≤ 3) (hold : old ≤ 2) : mR l D (tyL kA) z yX4_latestTurn wq_X4_latestTurn ({ frames := 2, cells := 0, slots := 0, locals := 43 }) [.ref h0] [(h0, .inr (3, [.ref su, .ref vo, .ref fp, .ref fg, .ref t0, .ref t1, .ref t2, .int (nI cd), .int (nI tc), .int (nI un), .int (nI rd), .int (nI old)]))] (fun r w => w = [(h0, .inr (3, [.ref su, .ref vo, .ref fp, .ref fg, .ref t0, .ref t1, .ref t2, .int (nI cd), .int (nI tc), .int (nI un), .int (nI rd), .int (nI old)]))] ∧ (r = tuS t0 t1 t2 ((old + (tc - 1)) % 3))) := by
  refine ofR (cc := cX4_latestTurn) (maxL := 1) RX4 rfl (by decide +kernel) rfl (Nat.le_of_ble_eq_true rfl) ?_
  intro p e s m args below meth c A ls hE
  obtain ⟨hx, hb, hr, hml, hts, hown, hlocks, hA, hS, hP, hK, hD, hG, hl⟩ := hE
  have hl : lv_has ls 1 [(0, .ref h0)] := hl
  have hH : s.heap = s.heap := rfl
  refine lv_aload_n hx hb dX4_latestTurn_0 rfl (lv_at hl 0 rfl) ?_
  refine lv_aload_n hx hb dX4_latestTurn_1 rfl (lv_at hl 0 rfl) ?_
  refine va_get (D := D) (ci := 3) (v := .int (nI tc)) (C := RX4) (T := TX4) (N := 12) hx hb hts n_X4_latestTurn_X4 hown hK hP 0 rfl rfl 8 (by decide) (wAt hts 1 (w := .fieldLink RX4 52 "FluxBench$Track" "turnCount" "I") rfl) (fun _ h9 => h9) rfl dX4_latestTurn_2 ?_
  refine lv_iconst (v := nI 1) hx hb dX4_latestTurn_5 (by decide) ?_
  refine lv_isub hx hb dX4_latestTurn_6 ?_
  rw [pk_sub (a := tc) (b := 1) (by omega)]
  have hF := va_free (wc := [(h0, .inr (3, [.ref su, .ref vo, .ref fp, .ref fg, .ref t0, .ref t1, .ref t2, .int (nI cd), .int (nI tc), .int (nI un), .int (nI rd), .int (nI old)]))]) hD hS hA [0] rfl
  refine va_callr (va_runV (As := [.int (nI (tc - 1))]) (rest := []) ⟨hx, hb, hml, hown, hts⟩ (c_X4_turnAt l D kA z h0 su vo fp fg t0 t1 t2 cd tc un rd old (tc - 1) (by first | assumption | omega) (by first | assumption | omega) _) (cwV 1 hts h_X4_latestTurn_0 rfl rfl rfl (by decide +kernel) ⟨Nat.le_of_ble_eq_true rfl, Nat.le_of_ble_eq_true rfl⟩) (fPv hK hP hD hS hG hF [0] (by decide) rfl 0 3 rfl rfl rfl) rfl rfl hl.1 rfl (lv_room (Nat.le_of_ble_eq_true rfl)) dX4_latestTurn_7 ⟨Nat.le_of_ble_eq_true rfl, Nat.le_of_ble_eq_true rfl⟩) hS (fun q _ h => hF q h) hF (fun u1 ra9 t H locs ht hvm hw hB hz1 hk1 hS => ?_)
  obtain ⟨ra_1, w1⟩ := u1
  obtain ⟨e0, hB⟩ := hB
  have e0 : ra_1 = ra9 := e0
  subst e0
  obtain ⟨hP, hD⟩ := fJ (wr := []) hP hD [0] [] rfl rfl (by decide) (by decide) hk1 hF ht hB
  try dsimp only at hw
  obtain ⟨rfl, et_1⟩ := hw
  have hP : va_P D vwCl [(h0, .inr (3, [.ref su, .ref vo, .ref fp, .ref fg, .ref t0, .ref t1, .ref t2, .int (nI cd), .int (nI tc), .int (nI un), .int (nI rd), .int (nI old)]))] H := hP
  have hD : va_D A [(h0, .inr (3, [.ref su, .ref vo, .ref fp, .ref fg, .ref t0, .ref t1, .ref t2, .int (nI cd), .int (nI tc), .int (nI un), .int (nI rd), .int (nI old)]))] := hD
  exact endR (post := fun r w => w = [(h0, .inr (3, [.ref su, .ref vo, .ref fp, .ref fg, .ref t0, .ref t1, .ref t2, .int (nI cd), .int (nI tc), .int (nI un), .int (nI rd), .int (nI old)]))] ∧ (r = tuS t0 t1 t2 ((old + (tc - 1)) % 3))) hx hb hr (Or.inl ⟨_, rfl⟩) hlocks hK hP hD hS (⟨rfl, by first | rfl | assumption | omega | (rw [if_pos (by omega)]; first | done | rfl) | (rw [if_neg (by omega)]; first | done | rfl)⟩) (Nat.le_of_ble_eq_true rfl) (Nat.le_of_ble_eq_true rfl) dX4_latestTurn_10

def wq_X4_nextTurn : List Cond := .code yX4_nextTurn cX4_nextTurn 1 (some (.object "FluxBench$Turn")) :: (([.fieldLink RX4 52 "FluxBench$Track" "turnCount" "I", .fieldLink RX4 62 "FluxBench$Track" "oldest" "I", .methodLink RX4 82 yX4_latestTurn, .instanceMethod yX4_latestTurn, .selects RX4 yX4_latestTurn yX4_latestTurn, .initialized RX4] : List Cond) ++ (u_ws RX4 TX4 12 ++ (wq_X4_latestTurn ++ ([] : List Cond))))
theorem gd_X4_nextTurn : wq_X4_nextTurn.all goodWord = true := by decide +kernel
theorem n_X4_nextTurn_X4 : ∀ w ∈ u_ws RX4 TX4 12, w ∈ wq_X4_nextTurn := fun w h => List.mem_cons_of_mem _ (List.mem_append_right _ (List.mem_append_left _ h))
theorem h_X4_nextTurn_0 : GoodIn wq_X4_nextTurn (wsV RX4 82 RX4 yX4_latestTurn wq_X4_latestTurn) := goodIn_app (goodIn_r _ [3, 4, 5, 6] (by decide +kernel) (by decide +kernel)) (goodIn_sub (fun w h => List.mem_cons_of_mem _ (List.mem_append_right _ (List.mem_append_right _ (List.mem_append_left _ h)))) gd_X4_latestTurn)
set_option maxHeartbeats 4000000 in
set_option maxRecDepth 100000 in
theorem c_X4_nextTurn (l : Launch) (D : va_G) (kA : Nat → ClassId) (z : Nat) (h0 su vo fp fg t0 t1 t2 : Nat) (cd tc un rd old : Nat) (htc3 : tc ≤ 3) (hold : old ≤ 2) : mR l D (tyL kA) z yX4_nextTurn wq_X4_nextTurn ({ frames := 3, cells := 0, slots := 0, locals := 63 }) [.ref h0] [(h0, .inr (3, [.ref su, .ref vo, .ref fp, .ref fg, .ref t0, .ref t1, .ref t2, .int (nI cd), .int (nI tc), .int (nI un), .int (nI rd), .int (nI old)]))] (fun r w => ∃ (tc2 old2 : Nat), w = [(h0, .inr (3, [.ref su, .ref vo, .ref fp, .ref fg, .ref t0, .ref t1, .ref t2, .int (nI cd), .int (nI tc2), .int (nI un), .int (nI rd), .int (nI old2)]))] ∧ (r = tuS t0 t1 t2 ((old2 + (tc2 - 1)) % 3)) ∧ (tc2 = min (tc + 1) 3) ∧ (old2 ≤ 2)) := by
  refine ofR (cc := cX4_nextTurn) (maxL := 1) RX4 rfl (by decide +kernel) rfl (Nat.le_of_ble_eq_true rfl) ?_
  intro p e s m args below meth c A ls hE
  obtain ⟨hx, hb, hr, hml, hts, hown, hlocks, hA, hS, hP, hK, hD, hG, hl⟩ := hE
  have hl : lv_has ls 1 [(0, .ref h0)] := hl
  have hH : s.heap = s.heap := rfl
  refine lv_aload_n hx hb dX4_nextTurn_0 rfl (lv_at hl 0 rfl) ?_
  refine va_get (D := D) (ci := 3) (v := .int (nI tc)) (C := RX4) (T := TX4) (N := 12) hx hb hts n_X4_nextTurn_X4 hown hK hP 0 rfl rfl 8 (by decide) (wAt hts 1 (w := .fieldLink RX4 52 "FluxBench$Track" "turnCount" "I") rfl) (fun _ h9 => h9) rfl dX4_nextTurn_1 ?_
  refine lv_iconst (v := nI 3) hx hb dX4_nextTurn_4 (by decide) ?_
  refine lv_icmp_ge (tgt := 21) hx hb dX4_nextTurn_5 (by decide) (fun c5 => ?_) (fun c5 => ?_)
  ·
    rw [qle (a := 3) (b := tc) (by omega) (by omega)] at c5
    refine lv_aload_n hx hb dX4_nextTurn_21 rfl (lv_at hl 0 rfl) ?_
    refine lv_aload_n hx hb dX4_nextTurn_22 rfl (lv_at hl 0 rfl) ?_
    refine va_get (D := D) (ci := 3) (v := .int (nI old)) (C := RX4) (T := TX4) (N := 12) hx hb hts n_X4_nextTurn_X4 hown hK hP 0 rfl rfl 11 (by decide) (wAt hts 2 (w := .fieldLink RX4 62 "FluxBench$Track" "oldest" "I") rfl) (fun _ h9 => h9) rfl dX4_nextTurn_23 ?_
    refine lv_iconst (v := nI 1) hx hb dX4_nextTurn_26 (by decide) ?_
    refine lv_iadd hx hb dX4_nextTurn_27 ?_
    rw [nI_add old 1]
    refine lv_iconst (v := nI 3) hx hb dX4_nextTurn_28 (by decide) ?_
    refine lv_irem hx hb dX4_nextTurn_29 (by decide) ?_
    rw [pk_rem (a := (old + 1)) (d := 3) (by omega) (by omega) (by omega)]
    refine va_put (D := D) (ci := 3) (v := .int (nI ((old + 1) % 3))) (ty := .int) (C := RX4) (T := TX4) (N := 12) hx hb hts n_X4_nextTurn_X4 tyX4 tyX4_ok nmX4 hown hK hP hD hS 0 rfl rfl 11 (by decide) (wAt hts 2 (w := .fieldLink RX4 62 "FluxBench$Track" "oldest" "I") rfl) (fun _ h9 => h9) rfl (by decide +kernel) rfl rfl (Nat.le_of_ble_eq_true rfl) dX4_nextTurn_30 (fun H locs hP hD hS => ?_)
    have hP : va_P D vwCl [(h0, .inr (3, [.ref su, .ref vo, .ref fp, .ref fg, .ref t0, .ref t1, .ref t2, .int (nI cd), .int (nI tc), .int (nI un), .int (nI rd), .int (nI ((old + 1) % 3))]))] H := hP
    have hD : va_D A [(h0, .inr (3, [.ref su, .ref vo, .ref fp, .ref fg, .ref t0, .ref t1, .ref t2, .int (nI cd), .int (nI tc), .int (nI un), .int (nI rd), .int (nI ((old + 1) % 3))]))] := hD
    refine lv_aload_n hx hb dX4_nextTurn_33 rfl (lv_at hl 0 rfl) ?_
    have hF := va_free (wc := [(h0, .inr (3, [.ref su, .ref vo, .ref fp, .ref fg, .ref t0, .ref t1, .ref t2, .int (nI cd), .int (nI tc), .int (nI un), .int (nI rd), .int (nI ((old + 1) % 3))]))]) hD hS hA [0] rfl
    refine va_callr (va_runV (As := []) (rest := []) ⟨hx, hb, hml, hown, hts⟩ (c_X4_latestTurn l D kA z h0 su vo fp fg t0 t1 t2 cd tc un rd ((old + 1) % 3) (by first | assumption | omega) (by first | assumption | omega) (by first | assumption | omega) _) (cwV 0 hts h_X4_nextTurn_0 rfl rfl rfl (by decide +kernel) ⟨Nat.le_of_ble_eq_true rfl, Nat.le_of_ble_eq_true rfl⟩) (fPv hK hP hD hS hG hF [0] (by decide) rfl 0 3 rfl rfl rfl) rfl rfl hl.1 rfl (lv_room (Nat.le_of_ble_eq_true rfl)) dX4_nextTurn_34 ⟨Nat.le_of_ble_eq_true rfl, Nat.le_of_ble_eq_true rfl⟩) hS (fun q _ h => hF q h) hF (fun u1 ra9 t H locs ht hvm hw hB hz1 hk1 hS => ?_)
    obtain ⟨ra_1, w1⟩ := u1
    obtain ⟨e0, hB⟩ := hB
    have e0 : ra_1 = ra9 := e0
    subst e0
    obtain ⟨hP, hD⟩ := fJ (wr := []) hP hD [0] [] rfl rfl (by decide) (by decide) hk1 hF ht hB
    try dsimp only at hw
    obtain ⟨rfl, et_1⟩ := hw
    have hP : va_P D vwCl [(h0, .inr (3, [.ref su, .ref vo, .ref fp, .ref fg, .ref t0, .ref t1, .ref t2, .int (nI cd), .int (nI tc), .int (nI un), .int (nI rd), .int (nI ((old + 1) % 3))]))] H := hP
    have hD : va_D A [(h0, .inr (3, [.ref su, .ref vo, .ref fp, .ref fg, .ref t0, .ref t1, .ref t2, .int (nI cd), .int (nI tc), .int (nI un), .int (nI rd), .int (nI ((old + 1) % 3))]))] := hD
    exact endR (post := fun r w => ∃ (tc2 old2 : Nat), w = [(h0, .inr (3, [.ref su, .ref vo, .ref fp, .ref fg, .ref t0, .ref t1, .ref t2, .int (nI cd), .int (nI tc2), .int (nI un), .int (nI rd), .int (nI old2)]))] ∧ (r = tuS t0 t1 t2 ((old2 + (tc2 - 1)) % 3)) ∧ (tc2 = min (tc + 1) 3) ∧ (old2 ≤ 2)) hx hb hr (Or.inl ⟨_, rfl⟩) hlocks hK hP hD hS (⟨tc, ((old + 1) % 3), rfl, by first | rfl | assumption | omega | (rw [if_pos (by omega)]; first | done | rfl) | (rw [if_neg (by omega)]; first | done | rfl), by first | rfl | assumption | omega | (rw [if_pos (by omega)]; first | done | rfl) | (rw [if_neg (by omega)]; first | done | rfl), by first | rfl | assumption | omega | (rw [if_pos (by omega)]; first | done | rfl) | (rw [if_neg (by omega)]; first | done | rfl)⟩) (Nat.le_of_ble_eq_true rfl) (Nat.le_of_ble_eq_true rfl) dX4_nextTurn_37
  ·
    rw [qle (a := 3) (b := tc) (by omega) (by omega)] at c5
    refine lv_aload_n hx hb dX4_nextTurn_8 rfl (lv_at hl 0 rfl) ?_
    refine lv_dup hx hb dX4_nextTurn_9 rfl ?_
    refine va_get (D := D) (ci := 3) (v := .int (nI tc)) (C := RX4) (T := TX4) (N := 12) hx hb hts n_X4_nextTurn_X4 hown hK hP 0 rfl rfl 8 (by decide) (wAt hts 1 (w := .fieldLink RX4 52 "FluxBench$Track" "turnCount" "I") rfl) (fun _ h9 => h9) rfl dX4_nextTurn_10 ?_
    refine lv_iconst (v := nI 1) hx hb dX4_nextTurn_13 (by decide) ?_
    refine lv_iadd hx hb dX4_nextTurn_14 ?_
    rw [nI_add tc 1]
    refine va_put (D := D) (ci := 3) (v := .int (nI (tc + 1))) (ty := .int) (C := RX4) (T := TX4) (N := 12) hx hb hts n_X4_nextTurn_X4 tyX4 tyX4_ok nmX4 hown hK hP hD hS 0 rfl rfl 8 (by decide) (wAt hts 1 (w := .fieldLink RX4 52 "FluxBench$Track" "turnCount" "I") rfl) (fun _ h9 => h9) rfl (by decide +kernel) rfl rfl (Nat.le_of_ble_eq_true rfl) dX4_nextTurn_15 (fun H locs hP hD hS => ?_)
    have hP : va_P D vwCl [(h0, .inr (3, [.ref su, .ref vo, .ref fp, .ref fg, .ref t0, .ref t1, .ref t2, .int (nI cd), .int (nI (tc + 1)), .int (nI un), .int (nI rd), .int (nI old)]))] H := hP
    have hD : va_D A [(h0, .inr (3, [.ref su, .ref vo, .ref fp, .ref fg, .ref t0, .ref t1, .ref t2, .int (nI cd), .int (nI (tc + 1)), .int (nI un), .int (nI rd), .int (nI old)]))] := hD
    refine lv_goto (tgt := 33) hx hb dX4_nextTurn_18 (by decide) ?_
    refine lv_aload_n hx hb dX4_nextTurn_33 rfl (lv_at hl 0 rfl) ?_
    have hF := va_free (wc := [(h0, .inr (3, [.ref su, .ref vo, .ref fp, .ref fg, .ref t0, .ref t1, .ref t2, .int (nI cd), .int (nI (tc + 1)), .int (nI un), .int (nI rd), .int (nI old)]))]) hD hS hA [0] rfl
    refine va_callr (va_runV (As := []) (rest := []) ⟨hx, hb, hml, hown, hts⟩ (c_X4_latestTurn l D kA z h0 su vo fp fg t0 t1 t2 cd (tc + 1) un rd old (by first | assumption | omega) (by first | assumption | omega) (by first | assumption | omega) _) (cwV 0 hts h_X4_nextTurn_0 rfl rfl rfl (by decide +kernel) ⟨Nat.le_of_ble_eq_true rfl, Nat.le_of_ble_eq_true rfl⟩) (fPv hK hP hD hS hG hF [0] (by decide) rfl 0 3 rfl rfl rfl) rfl rfl hl.1 rfl (lv_room (Nat.le_of_ble_eq_true rfl)) dX4_nextTurn_34 ⟨Nat.le_of_ble_eq_true rfl, Nat.le_of_ble_eq_true rfl⟩) hS (fun q _ h => hF q h) hF (fun u1 ra9 t H locs ht hvm hw hB hz1 hk1 hS => ?_)
    obtain ⟨ra_2, w1⟩ := u1
    obtain ⟨e0, hB⟩ := hB
    have e0 : ra_2 = ra9 := e0
    subst e0
    obtain ⟨hP, hD⟩ := fJ (wr := []) hP hD [0] [] rfl rfl (by decide) (by decide) hk1 hF ht hB
    try dsimp only at hw
    obtain ⟨rfl, et_2⟩ := hw
    have hP : va_P D vwCl [(h0, .inr (3, [.ref su, .ref vo, .ref fp, .ref fg, .ref t0, .ref t1, .ref t2, .int (nI cd), .int (nI (tc + 1)), .int (nI un), .int (nI rd), .int (nI old)]))] H := hP
    have hD : va_D A [(h0, .inr (3, [.ref su, .ref vo, .ref fp, .ref fg, .ref t0, .ref t1, .ref t2, .int (nI cd), .int (nI (tc + 1)), .int (nI un), .int (nI rd), .int (nI old)]))] := hD
    exact endR (post := fun r w => ∃ (tc2 old2 : Nat), w = [(h0, .inr (3, [.ref su, .ref vo, .ref fp, .ref fg, .ref t0, .ref t1, .ref t2, .int (nI cd), .int (nI tc2), .int (nI un), .int (nI rd), .int (nI old2)]))] ∧ (r = tuS t0 t1 t2 ((old2 + (tc2 - 1)) % 3)) ∧ (tc2 = min (tc + 1) 3) ∧ (old2 ≤ 2)) hx hb hr (Or.inl ⟨_, rfl⟩) hlocks hK hP hD hS (⟨(tc + 1), old, rfl, by first | rfl | assumption | omega | (rw [if_pos (by omega)]; first | done | rfl) | (rw [if_neg (by omega)]; first | done | rfl), by first | rfl | assumption | omega | (rw [if_pos (by omega)]; first | done | rfl) | (rw [if_neg (by omega)]; first | done | rfl), by first | rfl | assumption | omega | (rw [if_pos (by omega)]; first | done | rfl) | (rw [if_neg (by omega)]; first | done | rfl)⟩) (Nat.le_of_ble_eq_true rfl) (Nat.le_of_ble_eq_true rfl) dX4_nextTurn_37

def wq_X4_becomeEmpty : List Cond := .code yX4_becomeEmpty cX4_becomeEmpty 2 none :: (([.fieldLink RX4 65 "FluxBench$Track" "code" "I", .fieldLink RX4 12 "FluxBench$Track" "surface" "LFluxBench$Surface;", .methodLink RX4 159 yX3_empty, .instanceMethod yX3_empty, .selects RX3 yX3_empty yX3_empty, .initialized RX3, .fieldLink RX4 52 "FluxBench$Track" "turnCount" "I", .fieldLink RX4 62 "FluxBench$Track" "oldest" "I"] : List Cond) ++ (u_ws RX4 TX4 12 ++ (wq_X3_empty ++ ([] : List Cond))))
theorem gd_X4_becomeEmpty : wq_X4_becomeEmpty.all goodWord = true := by decide +kernel
theorem n_X4_becomeEmpty_X4 : ∀ w ∈ u_ws RX4 TX4 12, w ∈ wq_X4_becomeEmpty := fun w h => List.mem_cons_of_mem _ (List.mem_append_right _ (List.mem_append_left _ h))
theorem h_X4_becomeEmpty_0 : GoodIn wq_X4_becomeEmpty (wsV RX4 159 RX3 yX3_empty wq_X3_empty) := goodIn_app (goodIn_r _ [3, 4, 5, 6] (by decide +kernel) (by decide +kernel)) (goodIn_sub (fun w h => List.mem_cons_of_mem _ (List.mem_append_right _ (List.mem_append_right _ (List.mem_append_left _ h)))) gd_X3_empty)
set_option maxHeartbeats 4000000 in
set_option maxRecDepth 100000 in
theorem c_X4_becomeEmpty (l : Launch) (D : va_G) (kA : Nat → ClassId) (z : Nat) (h0 su vo fp fg t0 t1 t2 : Nat) (cd tc un rd old : Nat) (a1 a2 a3 a4 n cx : Nat) (ah : Int32)  : mV l D (tyL kA) z yX4_becomeEmpty wq_X4_becomeEmpty ({ frames := 1, cells := 0, slots := 0, locals := 20 }) [.ref h0, .int (nI cx)] [(h0, .inr (3, [.ref su, .ref vo, .ref fp, .ref fg, .ref t0, .ref t1, .ref t2, .int (nI cd), .int (nI tc), .int (nI un), .int (nI rd), .int (nI old)])), (su, .inr (2, [.ref a1, .ref a2, .ref a3, .ref a4, .int (nI n), .int ah]))] (fun w => w = [(h0, .inr (3, [.ref su, .ref vo, .ref fp, .ref fg, .ref t0, .ref t1, .ref t2, .int (nI cx), .int (nI 0), .int (nI un), .int (nI rd), .int (nI 0)])), (su, .inr (2, [.ref a1, .ref a2, .ref a3, .ref a4, .int (nI 0), .int (nI 0)]))]) := by
  refine ofV (cc := cX4_becomeEmpty) (maxL := 2) RX4 rfl (by decide +kernel) rfl (Nat.le_of_ble_eq_true rfl) ?_
  intro p e s m args below meth c A ls hnm hE
  obtain ⟨hx, hb, hr, hml, hts, hown, hlocks, hA, hS, hP, hK, hD, hG, hl⟩ := hE
  have hl : lv_has ls 2 [(0, .ref h0), (1, .int (nI cx))] := hl
  have hH : s.heap = s.heap := rfl
  refine lv_aload_n hx hb dX4_becomeEmpty_0 rfl (lv_at hl 0 rfl) ?_
  refine lv_iload_n hx hb dX4_becomeEmpty_1 rfl (lv_at hl 1 rfl) ?_
  refine va_put (D := D) (ci := 3) (v := .int (nI cx)) (ty := .int) (C := RX4) (T := TX4) (N := 12) hx hb hts n_X4_becomeEmpty_X4 tyX4 tyX4_ok nmX4 hown hK hP hD hS 0 rfl rfl 7 (by decide) (wAt hts 1 (w := .fieldLink RX4 65 "FluxBench$Track" "code" "I") rfl) (fun _ h9 => h9) rfl (by decide +kernel) rfl rfl (Nat.le_of_ble_eq_true rfl) dX4_becomeEmpty_2 (fun H locs hP hD hS => ?_)
  have hP : va_P D vwCl [(h0, .inr (3, [.ref su, .ref vo, .ref fp, .ref fg, .ref t0, .ref t1, .ref t2, .int (nI cx), .int (nI tc), .int (nI un), .int (nI rd), .int (nI old)])), (su, .inr (2, [.ref a1, .ref a2, .ref a3, .ref a4, .int (nI n), .int ah]))] H := hP
  have hD : va_D A [(h0, .inr (3, [.ref su, .ref vo, .ref fp, .ref fg, .ref t0, .ref t1, .ref t2, .int (nI cx), .int (nI tc), .int (nI un), .int (nI rd), .int (nI old)])), (su, .inr (2, [.ref a1, .ref a2, .ref a3, .ref a4, .int (nI n), .int ah]))] := hD
  refine lv_aload_n hx hb dX4_becomeEmpty_5 rfl (lv_at hl 0 rfl) ?_
  refine va_get (D := D) (ci := 3) (v := .ref su) (C := RX4) (T := TX4) (N := 12) hx hb hts n_X4_becomeEmpty_X4 hown hK hP 0 rfl rfl 0 (by decide) (wAt hts 2 (w := .fieldLink RX4 12 "FluxBench$Track" "surface" "LFluxBench$Surface;") rfl) (fun _ h9 => h9) rfl dX4_becomeEmpty_6 ?_
  have hF := va_free (wc := [(su, .inr (2, [.ref a1, .ref a2, .ref a3, .ref a4, .int (nI n), .int ah]))]) hD hS hA [1] rfl
  refine va_callv (va_runV (As := []) (rest := []) ⟨hx, hb, hml, hown, hts⟩ (c_X3_empty l D kA z su a1 a2 a3 a4 (nI n) ah  _) (cwV 0 hts h_X4_becomeEmpty_0 rfl rfl rfl (by decide +kernel) ⟨Nat.le_of_ble_eq_true rfl, Nat.le_of_ble_eq_true rfl⟩) (fPv hK hP hD hS hG hF [1] (by decide) rfl 1 2 rfl rfl rfl) rfl rfl hl.1 rfl (lv_room (Nat.le_of_ble_eq_true rfl)) dX4_becomeEmpty_9 ⟨Nat.le_of_ble_eq_true rfl, Nat.le_of_ble_eq_true rfl⟩) hS (fun q _ h => hF q h) hF (fun w1 t H locs ht hvm hw hB hz1 hk1 hS => ?_)
  obtain ⟨hP, hD⟩ := fJ (wr := [(h0, .inr (3, [.ref su, .ref vo, .ref fp, .ref fg, .ref t0, .ref t1, .ref t2, .int (nI cx), .int (nI tc), .int (nI un), .int (nI rd), .int (nI old)]))]) hP hD [1] [0] rfl rfl (by decide) (by decide) hk1 hF ht hB
  try dsimp only at hw
  subst hw
  have hP : va_P D vwCl [(h0, .inr (3, [.ref su, .ref vo, .ref fp, .ref fg, .ref t0, .ref t1, .ref t2, .int (nI cx), .int (nI tc), .int (nI un), .int (nI rd), .int (nI old)])), (su, .inr (2, [.ref a1, .ref a2, .ref a3, .ref a4, .int (nI 0), .int (nI 0)]))] H := hP
  have hD : va_D A [(h0, .inr (3, [.ref su, .ref vo, .ref fp, .ref fg, .ref t0, .ref t1, .ref t2, .int (nI cx), .int (nI tc), .int (nI un), .int (nI rd), .int (nI old)])), (su, .inr (2, [.ref a1, .ref a2, .ref a3, .ref a4, .int (nI 0), .int (nI 0)]))] := hD
  refine lv_aload_n hx hb dX4_becomeEmpty_12 rfl (lv_at hl 0 rfl) ?_
  refine lv_iconst (v := nI 0) hx hb dX4_becomeEmpty_13 (by decide) ?_
  refine va_put (D := D) (ci := 3) (v := .int (nI 0)) (ty := .int) (C := RX4) (T := TX4) (N := 12) hx hb hts n_X4_becomeEmpty_X4 tyX4 tyX4_ok nmX4 hown hK hP hD hS 0 rfl rfl 8 (by decide) (wAt hts 7 (w := .fieldLink RX4 52 "FluxBench$Track" "turnCount" "I") rfl) (fun _ h9 => h9) rfl (by decide +kernel) rfl rfl (Nat.le_of_ble_eq_true rfl) dX4_becomeEmpty_14 (fun H locs hP hD hS => ?_)
  have hP : va_P D vwCl [(h0, .inr (3, [.ref su, .ref vo, .ref fp, .ref fg, .ref t0, .ref t1, .ref t2, .int (nI cx), .int (nI 0), .int (nI un), .int (nI rd), .int (nI old)])), (su, .inr (2, [.ref a1, .ref a2, .ref a3, .ref a4, .int (nI 0), .int (nI 0)]))] H := hP
  have hD : va_D A [(h0, .inr (3, [.ref su, .ref vo, .ref fp, .ref fg, .ref t0, .ref t1, .ref t2, .int (nI cx), .int (nI 0), .int (nI un), .int (nI rd), .int (nI old)])), (su, .inr (2, [.ref a1, .ref a2, .ref a3, .ref a4, .int (nI 0), .int (nI 0)]))] := hD
  refine lv_aload_n hx hb dX4_becomeEmpty_17 rfl (lv_at hl 0 rfl) ?_
  refine lv_iconst (v := nI 0) hx hb dX4_becomeEmpty_18 (by decide) ?_
  refine va_put (D := D) (ci := 3) (v := .int (nI 0)) (ty := .int) (C := RX4) (T := TX4) (N := 12) hx hb hts n_X4_becomeEmpty_X4 tyX4 tyX4_ok nmX4 hown hK hP hD hS 0 rfl rfl 11 (by decide) (wAt hts 8 (w := .fieldLink RX4 62 "FluxBench$Track" "oldest" "I") rfl) (fun _ h9 => h9) rfl (by decide +kernel) rfl rfl (Nat.le_of_ble_eq_true rfl) dX4_becomeEmpty_19 (fun H locs hP hD hS => ?_)
  have hP : va_P D vwCl [(h0, .inr (3, [.ref su, .ref vo, .ref fp, .ref fg, .ref t0, .ref t1, .ref t2, .int (nI cx), .int (nI 0), .int (nI un), .int (nI rd), .int (nI 0)])), (su, .inr (2, [.ref a1, .ref a2, .ref a3, .ref a4, .int (nI 0), .int (nI 0)]))] H := hP
  have hD : va_D A [(h0, .inr (3, [.ref su, .ref vo, .ref fp, .ref fg, .ref t0, .ref t1, .ref t2, .int (nI cx), .int (nI 0), .int (nI un), .int (nI rd), .int (nI 0)])), (su, .inr (2, [.ref a1, .ref a2, .ref a3, .ref a4, .int (nI 0), .int (nI 0)]))] := hD
  exact endV hx hb hr hlocks hK hP hD hS (rfl) (Nat.le_of_ble_eq_true rfl) (Nat.le_of_ble_eq_true rfl) dX4_becomeEmpty_22
