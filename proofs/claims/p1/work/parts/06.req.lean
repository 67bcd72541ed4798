def wq_X6_requireCode_x : List Cond := .code yX6_requireCode cX6_requireCode 1 none :: (([.classLink RX6 47 "java/lang/IllegalArgumentException", .initialized "java/lang/IllegalArgumentException"] : List Cond) ++ ((vx_atS RX6 51 "java/lang/IllegalArgumentException" ["java/lang/RuntimeException", "java/lang/Exception"]).filter goodWord ++ ([] : List Cond)))
theorem gd_X6_requireCode_x : wq_X6_requireCode_x.all goodWord = true := by decide +kernel
set_option maxHeartbeats 4000000 in
set_option maxRecDepth 100000 in
theorem c_X6_requireCode_x (l : Launch) (D : va_G) (kA : Nat → ClassId) (z : Nat) (hfl : l.stackTraces = false) (x : Int32)  : xV l D (tyL kA) z yX6_requireCode wq_X6_requireCode_x ({ frames := 6, cells := 1, slots := 6, locals := 90 }) [.int x] [] (fun w => ∃ (n : Nat), w = [] ∧ n ≤ 2 ∧ x = nI n) (fun E w => (E = "java/lang/IllegalArgumentException" ∧ ∀ n : Nat, n ≤ 2 → x ≠ nI n) ∧ w = []) := by
  refine ofxV (cc := cX6_requireCode) (maxL := 1) RX6 rfl (by decide +kernel) rfl (Nat.le_of_ble_eq_true rfl) ?_
  intro p e s m args below meth c A ls hxt hE
  obtain ⟨hx, hb, hr, hml, hts, hown, hlocks, hA, hS, hP, hK, hD, hG, hl⟩ := hE
  have hl : lv_has ls 1 [(0, .int x)] := hl
  have hH : s.heap = s.heap := rfl
  refine lv_iload_n hx hb dX6_requireCode_0 rfl (lv_at hl 0 rfl) ?_
  refine lv_if_lt (tgt := 9) hx hb dX6_requireCode_1 (by decide) (fun c1 => ?_) (fun c1 => ?_)
  ·
    obtain ⟨sa9, hsa9⟩ := hG.2.2.1 _ (List.mem_of_getElem? (i := 14) rfl)
    exact vx_throwSW (own := RX6) (cls := "java/lang/IllegalArgumentException") (text := "a code is 0 to 2") (names := ["java/lang/RuntimeException", "java/lang/Exception"]) hx hb hfl hown (by decide +kernel) (by decide +kernel) (wAt hts 1 (w := .classLink RX6 47 "java/lang/IllegalArgumentException") rfl) (wAt hts 2 (w := .initialized "java/lang/IllegalArgumentException") rfl) hsa9 (exat_IllegalArgumentException (fun w h => hts w (List.mem_cons_of_mem _ (List.mem_append_right _ (List.mem_append_left _ h)))) hG.2.2.2.1) exot_IllegalArgumentException hG.2.1.1 hG.2.1.2 hS (by rw [hml]; exact hl.1) dX6_requireCode_9 dX6_requireCode_12 dX6_requireCode_13 dX6_requireCode_16 dX6_requireCode_19 (fun x9 h9 => (hxt x9 h9).elim) (by decide) (Nat.le_of_ble_eq_true rfl) (Nat.le_of_ble_eq_true rfl) (Nat.le_of_ble_eq_true rfl) hlocks (xEnd hK hP hD hS ⟨⟨rfl, by first | exact rq_lo (by assumption) (by decide) | exact rq_hi (by decide) (by assumption)⟩, rfl⟩) hS.2.2 (Nat.le_of_ble_eq_true rfl) (Nat.le_of_ble_eq_true rfl)
  ·
    refine lv_iload_n hx hb dX6_requireCode_4 rfl (lv_at hl 0 rfl) ?_
    refine lv_iconst (v := nI 2) hx hb dX6_requireCode_5 (by decide) ?_
    refine lv_icmp_le (tgt := 20) hx hb dX6_requireCode_6 (by decide) (fun c6 => ?_) (fun c6 => ?_)
    ·
      obtain ⟨n9, h9, rfl⟩ := rq_ok (k := 2) (by decide) c1 c6
      refine vx_ret ?_
      exact endV hx hb hr hlocks hK hP hD hS (⟨n9, rfl, by first | rfl | assumption | omega | (rw [if_pos (by omega)]; first | done | rfl) | (rw [if_neg (by omega)]; first | done | rfl), by first | rfl | assumption | omega | (rw [if_pos (by omega)]; first | done | rfl) | (rw [if_neg (by omega)]; first | done | rfl)⟩) (Nat.le_of_ble_eq_true rfl) (Nat.le_of_ble_eq_true rfl) dX6_requireCode_20
    ·
      obtain ⟨sa9, hsa9⟩ := hG.2.2.1 _ (List.mem_of_getElem? (i := 14) rfl)
      exact vx_throwSW (own := RX6) (cls := "java/lang/IllegalArgumentException") (text := "a code is 0 to 2") (names := ["java/lang/RuntimeException", "java/lang/Exception"]) hx hb hfl hown (by decide +kernel) (by decide +kernel) (wAt hts 1 (w := .classLink RX6 47 "java/lang/IllegalArgumentException") rfl) (wAt hts 2 (w := .initialized "java/lang/IllegalArgumentException") rfl) hsa9 (exat_IllegalArgumentException (fun w h => hts w (List.mem_cons_of_mem _ (List.mem_append_right _ (List.mem_append_left _ h)))) hG.2.2.2.1) exot_IllegalArgumentException hG.2.1.1 hG.2.1.2 hS (by rw [hml]; exact hl.1) dX6_requireCode_9 dX6_requireCode_12 dX6_requireCode_13 dX6_requireCode_16 dX6_requireCode_19 (fun x9 h9 => (hxt x9 h9).elim) (by decide) (Nat.le_of_ble_eq_true rfl) (Nat.le_of_ble_eq_true rfl) (Nat.le_of_ble_eq_true rfl) hlocks (xEnd hK hP hD hS ⟨⟨rfl, by first | exact rq_lo (by assumption) (by decide) | exact rq_hi (by decide) (by assumption)⟩, rfl⟩) hS.2.2 (Nat.le_of_ble_eq_true rfl) (Nat.le_of_ble_eq_true rfl)

def wq_X6_requireCode : List Cond := .code yX6_requireCode cX6_requireCode 1 none :: (([] : List Cond) ++ ([] : List Cond))
theorem gd_X6_requireCode : wq_X6_requireCode.all goodWord = true := by decide +kernel
set_option maxHeartbeats 4000000 in
set_option maxRecDepth 100000 in
theorem c_X6_requireCode (l : Launch) (D : va_G) (kA : Nat → ClassId) (z : Nat) (n : Nat) (h : n ≤ 2) : mV l D (tyL kA) z yX6_requireCode wq_X6_requireCode ({ frames := 0, cells := 0, slots := 0, locals := 0 }) [.int (nI n)] [] (fun w => w = []) := by
  refine ofV (cc := cX6_requireCode) (maxL := 1) RX6 rfl (by decide +kernel) rfl (Nat.le_of_ble_eq_true rfl) ?_
  intro p e s m args below meth c A ls hnm hE
  obtain ⟨hx, hb, hr, hml, hts, hown, hlocks, hA, hS, hP, hK, hD, hG, hl⟩ := hE
  have hl : lv_has ls 1 [(0, .int (nI n))] := hl
  have hH : s.heap = s.heap := rfl
  refine lv_iload_n hx hb dX6_requireCode_0 rfl (lv_at hl 0 rfl) ?_
  refine lv_if_lt (tgt := 9) hx hb dX6_requireCode_1 (by decide) (fun c1 => absurd c1 (nI_pos (n := n) (by omega))) (fun _ => ?_)
  refine lv_iload_n hx hb dX6_requireCode_4 rfl (lv_at hl 0 rfl) ?_
  refine lv_iconst (v := nI 2) hx hb dX6_requireCode_5 (by decide) ?_
  refine lv_icmp_le (tgt := 20) hx hb dX6_requireCode_6 (by decide) (fun _ => ?_) (fun c6 => False.elim (by rw [qle (a := n) (b := 2) (by omega) (by omega)] at c6; omega))
  exact endV hx hb hr hlocks hK hP hD hS (rfl) (Nat.le_of_ble_eq_true rfl) (Nat.le_of_ble_eq_true rfl) dX6_requireCode_20

def wq_X6_requireByte_x : List Cond := .code yX6_requireByte cX6_requireByte 1 none :: (([.classLink RX6 47 "java/lang/IllegalArgumentException", .initialized "java/lang/IllegalArgumentException"] : List Cond) ++ ((vx_atS RX6 51 "java/lang/IllegalArgumentException" ["java/lang/RuntimeException", "java/lang/Exception"]).filter goodWord ++ ([] : List Cond)))
theorem gd_X6_requireByte_x : wq_X6_requireByte_x.all goodWord = true := by decide +kernel
set_option maxHeartbeats 4000000 in
set_option maxRecDepth 100000 in
theorem c_X6_requireByte_x (l : Launch) (D : va_G) (kA : Nat → ClassId) (z : Nat) (hfl : l.stackTraces = false) (x : Int32)  : xV l D (tyL kA) z yX6_requireByte wq_X6_requireByte_x ({ frames := 6, cells := 1, slots := 6, locals := 90 }) [.int x] [] (fun w => ∃ (n : Nat), w = [] ∧ n ≤ 255 ∧ x = nI n) (fun E w => (E = "java/lang/IllegalArgumentException" ∧ ∀ n : Nat, n ≤ 255 → x ≠ nI n) ∧ w = []) := by
  refine ofxV (cc := cX6_requireByte) (maxL := 1) RX6 rfl (by decide +kernel) rfl (Nat.le_of_ble_eq_true rfl) ?_
  intro p e s m args below meth c A ls hxt hE
  obtain ⟨hx, hb, hr, hml, hts, hown, hlocks, hA, hS, hP, hK, hD, hG, hl⟩ := hE
  have hl : lv_has ls 1 [(0, .int x)] := hl
  have hH : s.heap = s.heap := rfl
  refine lv_iload_n hx hb dX6_requireByte_0 rfl (lv_at hl 0 rfl) ?_
  refine lv_if_lt (tgt := 11) hx hb dX6_requireByte_1 (by decide) (fun c1 => ?_) (fun c1 => ?_)
  ·
    obtain ⟨sa9, hsa9⟩ := hG.2.2.1 _ (List.mem_of_getElem? (i := 15) rfl)
    exact vx_throwSW (own := RX6) (cls := "java/lang/IllegalArgumentException") (text := "a byte is 0 to 255") (names := ["java/lang/RuntimeException", "java/lang/Exception"]) hx hb hfl hown (by decide +kernel) (by decide +kernel) (wAt hts 1 (w := .classLink RX6 47 "java/lang/IllegalArgumentException") rfl) (wAt hts 2 (w := .initialized "java/lang/IllegalArgumentException") rfl) hsa9 (exat_IllegalArgumentException (fun w h => hts w (List.mem_cons_of_mem _ (List.mem_append_right _ (List.mem_append_left _ h)))) hG.2.2.2.1) exot_IllegalArgumentException hG.2.1.1 hG.2.1.2 hS (by rw [hml]; exact hl.1) dX6_requireByte_11 dX6_requireByte_14 dX6_requireByte_15 dX6_requireByte_18 dX6_requireByte_21 (fun x9 h9 => (hxt x9 h9).elim) (by decide) (Nat.le_of_ble_eq_true rfl) (Nat.le_of_ble_eq_true rfl) (Nat.le_of_ble_eq_true rfl) hlocks (xEnd hK hP hD hS ⟨⟨rfl, by first | exact rq_lo (by assumption) (by decide) | exact rq_hi (by decide) (by assumption)⟩, rfl⟩) hS.2.2 (Nat.le_of_ble_eq_true rfl) (Nat.le_of_ble_eq_true rfl)
  ·
    refine lv_iload_n hx hb dX6_requireByte_4 rfl (lv_at hl 0 rfl) ?_
    refine lv_sipush (v := nI 255) hx hb dX6_requireByte_5 (by decide) ?_
    refine lv_icmp_le (tgt := 22) hx hb dX6_requireByte_8 (by decide) (fun c8 => ?_) (fun c8 => ?_)
    ·
      obtain ⟨n9, h9, rfl⟩ := rq_ok (k := 255) (by decide) c1 c8
      refine vx_ret ?_
      exact endV hx hb hr hlocks hK hP hD hS (⟨n9, rfl, by first | rfl | assumption | omega | (rw [if_pos (by omega)]; first | done | rfl) | (rw [if_neg (by omega)]; first | done | rfl), by first | rfl | assumption | omega | (rw [if_pos (by omega)]; first | done | rfl) | (rw [if_neg (by omega)]; first | done | rfl)⟩) (Nat.le_of_ble_eq_true rfl) (Nat.le_of_ble_eq_true rfl) dX6_requireByte_22
    ·
      obtain ⟨sa9, hsa9⟩ := hG.2.2.1 _ (List.mem_of_getElem? (i := 15) rfl)
      exact vx_throwSW (own := RX6) (cls := "java/lang/IllegalArgumentException") (text := "a byte is 0 to 255") (names := ["java/lang/RuntimeException", "java/lang/Exception"]) hx hb hfl hown (by decide +kernel) (by decide +kernel) (wAt hts 1 (w := .classLink RX6 47 "java/lang/IllegalArgumentException") rfl) (wAt hts 2 (w := .initialized "java/lang/IllegalArgumentException") rfl) hsa9 (exat_IllegalArgumentException (fun w h => hts w (List.mem_cons_of_mem _ (List.mem_append_right _ (List.mem_append_left _ h)))) hG.2.2.2.1) exot_IllegalArgumentException hG.2.1.1 hG.2.1.2 hS (by rw [hml]; exact hl.1) dX6_requireByte_11 dX6_requireByte_14 dX6_requireByte_15 dX6_requireByte_18 dX6_requireByte_21 (fun x9 h9 => (hxt x9 h9).elim) (by decide) (Nat.le_of_ble_eq_true rfl) (Nat.le_of_ble_eq_true rfl) (Nat.le_of_ble_eq_true rfl) hlocks (xEnd hK hP hD hS ⟨⟨rfl, by first | exact rq_lo (by assumption) (by decide) | exact rq_hi (by decide) (by assumption)⟩, rfl⟩) hS.2.2 (Nat.le_of_ble_eq_true rfl) (Nat.le_of_ble_eq_true rfl)

def wq_X6_requireByte : List Cond := .code yX6_requireByte cX6_requireByte 1 none :: (([] : List Cond) ++ ([] : List Cond))
theorem gd_X6_requireByte : wq_X6_requireByte.all goodWord = true := by decide +kernel
set_option maxHeartbeats 4000000 in
set_option maxRecDepth 100000 in
theorem c_X6_requireByte (l : Launch) (D : va_G) (kA : Nat → ClassId) (z : Nat) (n : Nat) (h : n ≤ 255) : mV l D (tyL kA) z yX6_requireByte wq_X6_requireByte ({ frames := 0, cells := 0, slots := 0, locals := 0 }) [.int (nI n)] [] (fun w => w = []) := by
  refine ofV (cc := cX6_requireByte) (maxL := 1) RX6 rfl (by decide +kernel) rfl (Nat.le_of_ble_eq_true rfl) ?_
  intro p e s m args below meth c A ls hnm hE
  obtain ⟨hx, hb, hr, hml, hts, hown, hlocks, hA, hS, hP, hK, hD, hG, hl⟩ := hE
  have hl : lv_has ls 1 [(0, .int (nI n))] := hl
  have hH : s.heap = s.heap := rfl
  refine lv_iload_n hx hb dX6_requireByte_0 rfl (lv_at hl 0 rfl) ?_
  refine lv_if_lt (tgt := 11) hx hb dX6_requireByte_1 (by decide) (fun c1 => absurd c1 (nI_pos (n := n) (by omega))) (fun _ => ?_)
  refine lv_iload_n hx hb dX6_requireByte_4 rfl (lv_at hl 0 rfl) ?_
  refine lv_sipush (v := nI 255) hx hb dX6_requireByte_5 (by decide) ?_
  refine lv_icmp_le (tgt := 22) hx hb dX6_requireByte_8 (by decide) (fun _ => ?_) (fun c8 => False.elim (by rw [qle (a := n) (b := 255) (by omega) (by omega)] at c8; omega))
  exact endV hx hb hr hlocks hK hP hD hS (rfl) (Nat.le_of_ble_eq_true rfl) (Nat.le_of_ble_eq_true rfl) dX6_requireByte_22

def wq_X6_requireWhat_x : List Cond := .code yX6_requireWhat cX6_requireWhat 2 none :: (([.classLink RX6 47 "java/lang/IllegalArgumentException", .initialized "java/lang/IllegalArgumentException"] : List Cond) ++ ((vx_atS RX6 51 "java/lang/IllegalArgumentException" ["java/lang/RuntimeException", "java/lang/Exception"]).filter goodWord ++ ([] : List Cond)))
theorem gd_X6_requireWhat_x : wq_X6_requireWhat_x.all goodWord = true := by decide +kernel
set_option maxHeartbeats 4000000 in
set_option maxRecDepth 100000 in
theorem c_X6_requireWhat_x (l : Launch) (D : va_G) (kA : Nat → ClassId) (z : Nat) (hfl : l.stackTraces = false) (x : Int32) (k : Nat) (hk : k < 2 ^ 31) : xV l D (tyL kA) z yX6_requireWhat wq_X6_requireWhat_x ({ frames := 6, cells := 1, slots := 6, locals := 90 }) [.int x, .int (nI k)] [] (fun w => ∃ (n : Nat), w = [] ∧ n ≤ k ∧ x = nI n) (fun E w => (E = "java/lang/IllegalArgumentException" ∧ ∀ n : Nat, n ≤ k → x ≠ nI n) ∧ w = []) := by
  refine ofxV (cc := cX6_requireWhat) (maxL := 2) RX6 rfl (by decide +kernel) rfl (Nat.le_of_ble_eq_true rfl) ?_
  intro p e s m args below meth c A ls hxt hE
  obtain ⟨hx, hb, hr, hml, hts, hown, hlocks, hA, hS, hP, hK, hD, hG, hl⟩ := hE
  have hl : lv_has ls 2 [(0, .int x), (1, .int (nI k))] := hl
  have hH : s.heap = s.heap := rfl
  refine lv_iload_n hx hb dX6_requireWhat_0 rfl (lv_at hl 0 rfl) ?_
  refine lv_if_lt (tgt := 9) hx hb dX6_requireWhat_1 (by decide) (fun c1 => ?_) (fun c1 => ?_)
  ·
    obtain ⟨sa9, hsa9⟩ := hG.2.2.1 _ (List.mem_of_getElem? (i := 16) rfl)
    exact vx_throwSW (own := RX6) (cls := "java/lang/IllegalArgumentException") (text := "there is no such thing to ask for") (names := ["java/lang/RuntimeException", "java/lang/Exception"]) hx hb hfl hown (by decide +kernel) (by decide +kernel) (wAt hts 1 (w := .classLink RX6 47 "java/lang/IllegalArgumentException") rfl) (wAt hts 2 (w := .initialized "java/lang/IllegalArgumentException") rfl) hsa9 (exat_IllegalArgumentException (fun w h => hts w (List.mem_cons_of_mem _ (List.mem_append_right _ (List.mem_append_left _ h)))) hG.2.2.2.1) exot_IllegalArgumentException hG.2.1.1 hG.2.1.2 hS (by rw [hml]; exact hl.1) dX6_requireWhat_9 dX6_requireWhat_12 dX6_requireWhat_13 dX6_requireWhat_16 dX6_requireWhat_19 (fun x9 h9 => (hxt x9 h9).elim) (by decide) (Nat.le_of_ble_eq_true rfl) (Nat.le_of_ble_eq_true rfl) (Nat.le_of_ble_eq_true rfl) hlocks (xEnd hK hP hD hS ⟨⟨rfl, by first | exact rq_lo (by assumption) hk | exact rq_hi hk (by assumption)⟩, rfl⟩) hS.2.2 (Nat.le_of_ble_eq_true rfl) (Nat.le_of_ble_eq_true rfl)
  ·
    refine lv_iload_n hx hb dX6_requireWhat_4 rfl (lv_at hl 0 rfl) ?_
    refine lv_iload_n hx hb dX6_requireWhat_5 rfl (lv_at hl 1 rfl) ?_
    refine lv_icmp_le (tgt := 20) hx hb dX6_requireWhat_6 (by decide) (fun c6 => ?_) (fun c6 => ?_)
    ·
      obtain ⟨n9, h9, rfl⟩ := rq_ok (k := k) hk c1 c6
      refine vx_ret ?_
      exact endV hx hb hr hlocks hK hP hD hS (⟨n9, rfl, by first | rfl | assumption | omega | (rw [if_pos (by omega)]; first | done | rfl) | (rw [if_neg (by omega)]; first | done | rfl), by first | rfl | assumption | omega | (rw [if_pos (by omega)]; first | done | rfl) | (rw [if_neg (by omega)]; first | done | rfl)⟩) (Nat.le_of_ble_eq_true rfl) (Nat.le_of_ble_eq_true rfl) dX6_requireWhat_20
    ·
      obtain ⟨sa9, hsa9⟩ := hG.2.2.1 _ (List.mem_of_getElem? (i := 16) rfl)
      exact vx_throwSW (own := RX6) (cls := "java/lang/IllegalArgumentException") (text := "there is no such thing to ask for") (names := ["java/lang/RuntimeException", "java/lang/Exception"]) hx hb hfl hown (by decide +kernel) (by decide +kernel) (wAt hts 1 (w := .classLink RX6 47 "java/lang/IllegalArgumentException") rfl) (wAt hts 2 (w := .initialized "java/lang/IllegalArgumentException") rfl) hsa9 (exat_IllegalArgumentException (fun w h => hts w (List.mem_cons_of_mem _ (List.mem_append_right _ (List.mem_append_left _ h)))) hG.2.2.2.1) exot_IllegalArgumentException hG.2.1.1 hG.2.1.2 hS (by rw [hml]; exact hl.1) dX6_requireWhat_9 dX6_requireWhat_12 dX6_requireWhat_13 dX6_requireWhat_16 dX6_requireWhat_19 (fun x9 h9 => (hxt x9 h9).elim) (by decide) (Nat.le_of_ble_eq_true rfl) (Nat.le_of_ble_eq_true rfl) (Nat.le_of_ble_eq_true rfl) hlocks (xEnd hK hP hD hS ⟨⟨rfl, by first | exact rq_lo (by assumption) hk | exact rq_hi hk (by assumption)⟩, rfl⟩) hS.2.2 (Nat.le_of_ble_eq_true rfl) (Nat.le_of_ble_eq_true rfl)

def wq_X6_requireWhat : List Cond := .code yX6_requireWhat cX6_requireWhat 2 none :: (([] : List Cond) ++ ([] : List Cond))
theorem gd_X6_requireWhat : wq_X6_requireWhat.all goodWord = true := by decide +kernel
set_option maxHeartbeats 4000000 in
set_option maxRecDepth 100000 in
theorem c_X6_requireWhat (l : Launch) (D : va_G) (kA : Nat → ClassId) (z : Nat) (n k : Nat) (h : n ≤ k) (hk : k < 2 ^ 31) : mV l D (tyL kA) z yX6_requireWhat wq_X6_requireWhat ({ frames := 0, cells := 0, slots := 0, locals := 0 }) [.int (nI n), .int (nI k)] [] (fun w => w = []) := by
  refine ofV (cc := cX6_requireWhat) (maxL := 2) RX6 rfl (by decide +kernel) rfl (Nat.le_of_ble_eq_true rfl) ?_
  intro p e s m args below meth c A ls hnm hE
  obtain ⟨hx, hb, hr, hml, hts, hown, hlocks, hA, hS, hP, hK, hD, hG, hl⟩ := hE
  have hl : lv_has ls 2 [(0, .int (nI n)), (1, .int (nI k))] := hl
  have hH : s.heap = s.heap := rfl
  refine lv_iload_n hx hb dX6_requireWhat_0 rfl (lv_at hl 0 rfl) ?_
  refine lv_if_lt (tgt := 9) hx hb dX6_requireWhat_1 (by decide) (fun c1 => absurd c1 (nI_pos (n := n) (by omega))) (fun _ => ?_)
  refine lv_iload_n hx hb dX6_requireWhat_4 rfl (lv_at hl 0 rfl) ?_
  refine lv_iload_n hx hb dX6_requireWhat_5 rfl (lv_at hl 1 rfl) ?_
  refine lv_icmp_le (tgt := 20) hx hb dX6_requireWhat_6 (by decide) (fun _ => ?_) (fun c6 => False.elim (by rw [qle (a := n) (b := k) (by omega) (by omega)] at c6; omega))
  exact endV hx hb hr hlocks hK hP hD hS (rfl) (Nat.le_of_ble_eq_true rfl) (Nat.le_of_ble_eq_true rfl) dX6_requireWhat_20

