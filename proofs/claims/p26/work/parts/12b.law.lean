def wq_L_below : List Cond := .code yL_below cL_below 2 (some .int) :: (([.constant RL 7 (2147483647)] : List Cond) ++ ([] : List Cond))
theorem gd_L_below : wq_L_below.all goodWord = true := by decide +kernel
set_option maxHeartbeats 4000000 in
set_option maxRecDepth 100000 in
theorem c_L_below (l : Launch) (D : va_G) (kA : Nat → ClassId) (z : Nat) (v : Int32) (q : Nat) (hq1 : 1 ≤ q) (hq2 : q < 2 ^ 31) : mI l D (tyL kA) z yL_below wq_L_below ({ frames := 0, cells := 0, slots := 0, locals := 0 }) [.int v, .int (nI q)] [] (fun r w => ∃ (k : Nat), w = [] ∧ (r = nI k) ∧ (k < q)) := by
  refine ofI (cc := cL_below) (maxL := 2) RL rfl (by decide +kernel) rfl (Nat.le_of_ble_eq_true rfl) ?_
  intro p e s m args below meth c A ls hE
  obtain ⟨hx, hb, hr, hml, hts, hown, hlocks, hA, hS, hP, hK, hD, hG, hl⟩ := hE
  have hl : lv_has ls 2 [(0, .int v), (1, .int (nI q))] := hl
  have hH : s.heap = s.heap := rfl
  refine lv_iload_n hx hb dL_below_0 rfl (lv_at hl 0 rfl) ?_
  refine lv_ldc hx hb hown (wAt hts 1 (w := .constant RL 7 (2147483647)) rfl) dL_below_1 ?_
  refine lv_iand hx hb dL_below_3 ?_
  obtain ⟨n9, hn9, e9⟩ := pk_andE v (m := 2147483647) 31 (by decide)
  refine W.eq (g2 := F0 m 4 ls [.int (nI n9)]) (by rw [← e9]) ?_
  refine lv_iload_n hx hb dL_below_4 rfl (lv_at hl 1 rfl) ?_
  refine lv_irem hx hb dL_below_5 (nI_ne0 (by omega) hq2) ?_
  rw [pk_rem (a := n9) (d := q) (by omega) (by omega) (by omega)]
  exact endI hx hb hr hlocks hK hP hD hS (⟨(n9 % q), rfl, by first | rfl | assumption | omega | (rw [if_pos (by omega)]; first | done | rfl) | (rw [if_neg (by omega)]; first | done | rfl), Nat.mod_lt _ (by omega)⟩) (Nat.le_of_ble_eq_true rfl) (Nat.le_of_ble_eq_true rfl) dL_below_6

def wq_L_cell : List Cond := .code yL_cell cL_cell 2 (some .int) :: (([.constant RL 8 (790386105)] : List Cond) ++ ([] : List Cond))
theorem gd_L_cell : wq_L_cell.all goodWord = true := by decide +kernel
set_option maxHeartbeats 4000000 in
set_option maxRecDepth 100000 in
theorem c_L_cell (l : Launch) (D : va_G) (kA : Nat → ClassId) (z : Nat) (ix : Nat) (hix : ix ≤ 100) : mI l D (tyL kA) z yL_cell wq_L_cell ({ frames := 0, cells := 0, slots := 0, locals := 0 }) [.ref z, .int (nI ix)] [] (fun r w => ∃ (v : Int32), w = [] ∧ (r = v)) := by
  refine ofI (cc := cL_cell) (maxL := 2) RL rfl (by decide +kernel) rfl (Nat.le_of_ble_eq_true rfl) ?_
  intro p e s m args below meth c A ls hE
  obtain ⟨hx, hb, hr, hml, hts, hown, hlocks, hA, hS, hP, hK, hD, hG, hl⟩ := hE
  have hl : lv_has ls 2 [(0, .ref z), (1, .int (nI ix))] := hl
  have hH : s.heap = s.heap := rfl
  obtain ⟨L9, xs9, hTz, hL9⟩ := hG.2.2.2.2
  refine lv_iload_n hx hb dL_cell_0 rfl (lv_at hl 1 rfl) ?_
  refine lv_aload_n hx hb dL_cell_1 rfl (lv_at hl 0 rfl) ?_
  refine va_tlen (v := nI L9) hx hb hTz hS rfl dL_cell_2 ?_
  refine lv_icmp_ge (tgt := 12) hx hb dL_cell_3 (by decide) (fun c3 => ?_) (fun c3 => ?_)
  ·
    rw [qle (a := L9) (b := ix) (by omega) (by omega)] at c3
    refine lv_ldc hx hb hown (wAt hts 1 (w := .constant RL 8 (790386105)) rfl) dL_cell_12 ?_
    refine lv_iload_n hx hb dL_cell_14 rfl (lv_at hl 1 rfl) ?_
    refine lv_iconst (v := nI 3) hx hb dL_cell_15 (by decide) ?_
    refine lv_iadd hx hb dL_cell_16 ?_
    rw [nI_add ix 3]
    refine lv_imul hx hb dL_cell_17 ?_
    exact endI hx hb hr hlocks hK hP hD hS (⟨((790386105) * (nI (ix + 3))), rfl, by first | rfl | assumption | omega | (rw [if_pos (by omega)]; first | done | rfl) | (rw [if_neg (by omega)]; first | done | rfl)⟩) (Nat.le_of_ble_eq_true rfl) (Nat.le_of_ble_eq_true rfl) dL_cell_18
  ·
    rw [qle (a := L9) (b := ix) (by omega) (by omega)] at c3
    refine lv_aload_n hx hb dL_cell_6 rfl (lv_at hl 0 rfl) ?_
    refine lv_iload_n hx hb dL_cell_7 rfl (lv_at hl 1 rfl) ?_
    refine va_ti hx hb hTz hS (v := .int (xs9 ix)) (vp_in_nI (n := ix) (by omega) (by omega)) (by rw [nI_clamp (n := ix) (by omega)]) dL_cell_8 ?_
    refine lv_goto (tgt := 18) hx hb dL_cell_9 (by decide) ?_
    exact endI hx hb hr hlocks hK hP hD hS (⟨(xs9 ix), rfl, by first | rfl | assumption | omega | (rw [if_pos (by omega)]; first | done | rfl) | (rw [if_neg (by omega)]; first | done | rfl)⟩) (Nat.le_of_ble_eq_true rfl) (Nat.le_of_ble_eq_true rfl) dL_cell_18

def wq_L_gone : List Cond := .code yL_gone cL_gone 4 (some .int) :: (([.methodLink RL 33 yX6_ofTrack, .instanceMethod yX6_ofTrack, .selects RX6 yX6_ofTrack yX6_ofTrack, .initialized RX6, .methodLink RL 68 yX6_ofCell, .instanceMethod yX6_ofCell, .selects RX6 yX6_ofCell yX6_ofCell] : List Cond) ++ (wq_X6_ofTrack_B1 ++ (wq_X6_ofCell_B3 ++ ([] : List Cond))))
theorem gd_L_gone : wq_L_gone.all goodWord = true := by decide +kernel
theorem h_L_gone_0 : GoodIn wq_L_gone (wsV RL 33 RX6 yX6_ofTrack wq_X6_ofTrack_B1) := goodIn_app (goodIn_r _ [1, 2, 3, 4] (by decide +kernel) (by decide +kernel)) (goodIn_sub (fun w h => List.mem_cons_of_mem _ (List.mem_append_right _ (List.mem_append_left _ h))) gd_X6_ofTrack_B1)
theorem h_L_gone_1 : GoodIn wq_L_gone (wsV RL 68 RX6 yX6_ofCell wq_X6_ofCell_B3) := goodIn_app (goodIn_r _ [5, 6, 7, 4] (by decide +kernel) (by decide +kernel)) (goodIn_sub (fun w h => List.mem_cons_of_mem _ (List.mem_append_right _ (List.mem_append_right _ (List.mem_append_left _ h)))) gd_X6_ofCell_B3)
set_option maxHeartbeats 4000000 in
set_option maxRecDepth 100000 in
theorem c_L_gone (l : Launch) (D : va_G) (kA : Nat → ClassId) (z : Nat) (B : BS) (be k : Nat) (hbe : B.2 0 = be) (hI : BI B) (hk : k < 4) : mI l D (tyL kA) z yL_gone wq_L_gone ({ frames := 4, cells := 0, slots := 0, locals := 90 }) [.ref be, .int (nI k)] (wB kA B) (fun r w => w = (wB kA B) ∧ (r = nI (shS (B.1 k)))) := by
  refine ofI (cc := cL_gone) (maxL := 4) RL rfl (by decide +kernel) rfl (Nat.le_of_ble_eq_true rfl) ?_
  intro p e s m args below meth c A ls hE
  obtain ⟨hx, hb, hr, hml, hts, hown, hlocks, hA, hS, hP, hK, hD, hG, hl⟩ := hE
  have hl : lv_has ls 4 [(0, .ref be), (1, .int (nI k))] := hl
  have hH : s.heap = s.heap := rfl
  have hn4 := (hI.1 k hk).2.2.2.1
  refine lv_iconst (v := nI 0) hx hb dL_gone_0 (by decide) ?_
  refine lv_istore_n (lv' := [(2, .int (nI 0)), (0, .ref be), (1, .int (nI k))]) hx hb dL_gone_1 rfl hl (by decide) rfl (fun ls hl => ?_)
  refine lv_iconst (v := nI 0) hx hb dL_gone_2 (by decide) ?_
  refine lv_istore_n (lv' := [(3, .int (nI 0)), (2, .int (nI 0)), (0, .ref be), (1, .int (nI k))]) hx hb dL_gone_3 rfl hl (by decide) rfl (fun ls hl => ?_)
  have lp_4 : ∀ (n_4 : Nat) (i : Nat) (ct : Nat), nn (B.1 k) 5 - i < n_4 → (i ≤ nn (B.1 k) 5) → (ct = cntT (rw' (B.1 k) 3) 2 i) → ∀ (H : Heap) (locs : List Loc) (ls : Array Slot), va_P D vwCl (wB kA B) H → va_D A (wB kA B) → va_S A s.heap H locs → lv_has ls 4 [(3, .int (nI i)), (2, .int (nI ct)), (0, .ref be), (1, .int (nI k))] → W p l e ({ frames := 4, cells := 0, slots := 0, locals := 90 }) s m args below meth c H locs 0 0 (MQ below (va_Qi (fun r w => w = (wB kA B) ∧ (r = nI (shS (B.1 k)))) (fB D (tyL kA) A) A) args s 0 0 A) (F0 m 4 ls []) := by
    clear hP hD hS hl
    intro n_4
    induction n_4 with
    | zero =>
      intro i ct hm_4 hi1 hct
      exact absurd hm_4 (by omega)
    | succ n_4 ih_4 =>
      intro i ct hm_4 hi1 hct H locs ls hP hD hS hl
      refine lv_iload_n hx hb dL_gone_4 rfl (lv_at hl 0 rfl) ?_
      refine lv_aload_n hx hb dL_gone_5 rfl (lv_at hl 2 rfl) ?_
      refine lv_iload_n hx hb dL_gone_6 rfl (lv_at hl 3 rfl) ?_
      refine lv_iconst (v := nI 1) hx hb dL_gone_7 (by decide) ?_
      have hF := chF [] hD hS hA
      refine va_calli (va_runV (As := [.int (nI k), .int (nI 1)]) (rest := [.int (nI i)]) ⟨hx, hb, hml, hown, hts⟩ (c_X6_ofTrack_B1 l D kA z B be k (by first | assumption | omega) (by first | assumption | omega) (by first | assumption | omega) _) (cwV 2 hts h_L_gone_0 rfl rfl rfl (by decide +kernel) ⟨Nat.le_of_ble_eq_true rfl, Nat.le_of_ble_eq_true rfl⟩) (fPvB [] (hbe) hK hP hD hS hG hF) rfl rfl hl.1 rfl (lv_room (Nat.le_of_ble_eq_true rfl)) dL_gone_8 ⟨Nat.le_of_ble_eq_true rfl, Nat.le_of_ble_eq_true rfl⟩) hS (fun q _ h => hF q h) hF (fun r_1 w1 t H locs ht hvm hw hB hz1 hk1 hS => ?_)
      obtain ⟨hP, hD⟩ := chJ [] hP hD hk1 hF ht hB
      try dsimp only at hw
      obtain ⟨rfl, e_1⟩ := hw
      replace e_1 := e_1.symm
      subst e_1
      have hP : va_P D vwCl (wB kA B) H := hP
      have hD : va_D A (wB kA B) := hD
      refine lv_icmp_ge (tgt := 39) hx hb dL_gone_11 (by decide) (fun c11 => ?_) (fun c11 => ?_)
      ·
        rw [qle (a := (nn (B.1 k) 5)) (b := i) (by omega) (by omega)] at c11
        refine lv_iload_n hx hb dL_gone_39 rfl (lv_at hl 1 rfl) ?_
        exact endI hx hb hr hlocks hK hP hD hS (⟨rfl, by rw [hct, show i = nn (B.1 k) 5 from by omega]; rfl⟩) (Nat.le_of_ble_eq_true rfl) (Nat.le_of_ble_eq_true rfl) dL_gone_40
      ·
        rw [qle (a := (nn (B.1 k) 5)) (b := i) (by omega) (by omega)] at c11
        refine lv_iload_n hx hb dL_gone_14 rfl (lv_at hl 1 rfl) ?_
        refine lv_aload_n hx hb dL_gone_15 rfl (lv_at hl 2 rfl) ?_
        refine lv_iload_n hx hb dL_gone_16 rfl (lv_at hl 3 rfl) ?_
        refine lv_iload_n hx hb dL_gone_17 rfl (lv_at hl 0 rfl) ?_
        refine lv_iconst (v := nI 3) hx hb dL_gone_18 (by decide) ?_
        have hF := chF [] hD hS hA
        refine va_calli (va_runV (As := [.int (nI k), .int (nI i), .int (nI 3)]) (rest := [.int (nI ct)]) ⟨hx, hb, hml, hown, hts⟩ (c_X6_ofCell_B3 l D kA z B be k i (by first | assumption | omega) (by first | assumption | omega) (by first | assumption | omega) (by first | assumption | omega) _) (cwV 3 hts h_L_gone_1 rfl rfl rfl (by decide +kernel) ⟨Nat.le_of_ble_eq_true rfl, Nat.le_of_ble_eq_true rfl⟩) (fPvB [] (hbe) hK hP hD hS hG hF) rfl rfl hl.1 rfl (lv_room (Nat.le_of_ble_eq_true rfl)) dL_gone_19 ⟨Nat.le_of_ble_eq_true rfl, Nat.le_of_ble_eq_true rfl⟩) hS (fun q _ h => hF q h) hF (fun r_2 w1 t H locs ht hvm hw hB hz1 hk1 hS => ?_)
        obtain ⟨hP, hD⟩ := chJ [] hP hD hk1 hF ht hB
        try dsimp only at hw
        obtain ⟨rfl, e_2⟩ := hw
        replace e_2 := e_2.symm
        subst e_2
        have hP : va_P D vwCl (wB kA B) H := hP
        have hD : va_D A (wB kA B) := hD
        have hdm := dT_le (rw' (B.1 k) 3 i)
        refine lv_iconst (v := nI 2) hx hb dL_gone_22 (by decide) ?_
        refine lv_icmp_ne (tgt := 30) hx hb dL_gone_23 (by decide) (fun c23 => ?_) (fun c23 => ?_)
        ·
          rw [qeq (a := (dT (rw' (B.1 k) 3 i))) (b := 2) (by omega) (by omega)] at c23
          refine lv_iconst (v := nI 0) hx hb dL_gone_30 (by decide) ?_
          refine lv_iadd hx hb dL_gone_31 ?_
          rw [nI_add ct 0]
          refine lv_istore_n (lv' := [(2, .int (nI (ct + 0))), (3, .int (nI i)), (0, .ref be), (1, .int (nI k))]) hx hb dL_gone_32 rfl hl (by decide) rfl (fun ls hl => ?_)
          refine lv_iinc (v := nI (i + 1)) (lv' := [(3, .int (nI (i + 1))), (2, .int (nI (ct + 0))), (0, .ref be), (1, .int (nI k))]) hx hb dL_gone_33 hl (k := 1) rfl (nI_add i 1) (by decide) rfl (fun ls hl => ?_)
          refine lv_goto (tgt := 4) hx hb dL_gone_36 (by decide) ?_
          have hdl := dT_le (rw' (B.1 k) 3 i)
          exact ih_4 (i + 1) (ct + 0) (by omega) (by first | assumption | omega | rfl) (by rw [cntT_n c23, hct, Nat.add_zero]) _ _ _ hP hD hS (lv_sub hl [0, 1, 2, 3] rfl)
        ·
          rw [qeq (a := (dT (rw' (B.1 k) 3 i))) (b := 2) (by omega) (by omega)] at c23
          refine lv_iconst (v := nI 1) hx hb dL_gone_26 (by decide) ?_
          refine lv_goto (tgt := 31) hx hb dL_gone_27 (by decide) ?_
          refine lv_iadd hx hb dL_gone_31 ?_
          rw [nI_add ct 1]
          refine lv_istore_n (lv' := [(2, .int (nI (ct + 1))), (3, .int (nI i)), (0, .ref be), (1, .int (nI k))]) hx hb dL_gone_32 rfl hl (by decide) rfl (fun ls hl => ?_)
          refine lv_iinc (v := nI (i + 1)) (lv' := [(3, .int (nI (i + 1))), (2, .int (nI (ct + 1))), (0, .ref be), (1, .int (nI k))]) hx hb dL_gone_33 hl (k := 1) rfl (nI_add i 1) (by decide) rfl (fun ls hl => ?_)
          refine lv_goto (tgt := 4) hx hb dL_gone_36 (by decide) ?_
          have hdl := dT_le (rw' (B.1 k) 3 i)
          exact ih_4 (i + 1) (ct + 1) (by omega) (by first | assumption | omega | rfl) (by rw [cntT_y c23, hct]) _ _ _ hP hD hS (lv_sub hl [0, 1, 2, 3] rfl)
  exact lp_4 (nn (B.1 k) 5 + 1) 0 0 (by omega) (by first | assumption | omega | rfl) rfl _ _ _ hP hD hS (lv_sub hl [0, 1, 2, 3] rfl)
