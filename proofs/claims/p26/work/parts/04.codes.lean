def wq_X0_cellsOfByte : List Cond := .code yX0_cellsOfByte cX0_cellsOfByte 1 (some .int) :: (([] : List Cond) ++ ([] : List Cond))
theorem gd_X0_cellsOfByte : wq_X0_cellsOfByte.all goodWord = true := by decide +kernel
set_option maxHeartbeats 4000000 in
set_option maxRecDepth 100000 in
theorem c_X0_cellsOfByte (l : Launch) (D : va_G) (kA : Nat → ClassId) (z : Nat) (cd : Nat) (hc : cd < 2 ^ 31) : mI l D (tyL kA) z yX0_cellsOfByte wq_X0_cellsOfByte ({ frames := 0, cells := 0, slots := 0, locals := 0 }) [.int (nI cd)] [] (fun r w => w = [] ∧ (r = nI (cB cd))) := by
  refine ofI (cc := cX0_cellsOfByte) (maxL := 1) RX0 rfl (by decide +kernel) rfl (Nat.le_of_ble_eq_true rfl) ?_
  intro p e s m args below meth c A ls hE
  obtain ⟨hx, hb, hr, hml, hts, hown, hlocks, hA, hS, hP, hK, hD, hG, hl⟩ := hE
  have hl : lv_has ls 1 [(0, .int (nI cd))] := hl
  have hH : s.heap = s.heap := rfl
  refine lv_iload_n hx hb dX0_cellsOfByte_0 rfl (lv_at hl 0 rfl) ?_
  refine lv_iconst (v := nI 2) hx hb dX0_cellsOfByte_1 (by decide) ?_
  refine lv_icmp_ne (tgt := 10) hx hb dX0_cellsOfByte_2 (by decide) (fun c2 => ?_) (fun c2 => ?_)
  ·
    rw [qeq (a := cd) (b := 2) (by omega) (by omega)] at c2
    refine lv_bipush (v := nI 16) hx hb dX0_cellsOfByte_10 (by decide) ?_
    exact endI hx hb hr hlocks hK hP hD hS (⟨rfl, by first | rw [cB_2 (by assumption)] | rw [cB_n (by assumption)]⟩) (Nat.le_of_ble_eq_true rfl) (Nat.le_of_ble_eq_true rfl) dX0_cellsOfByte_12
  ·
    rw [qeq (a := cd) (b := 2) (by omega) (by omega)] at c2
    refine lv_bipush (v := nI 10) hx hb dX0_cellsOfByte_5 (by decide) ?_
    refine lv_goto (tgt := 12) hx hb dX0_cellsOfByte_7 (by decide) ?_
    exact endI hx hb hr hlocks hK hP hD hS (⟨rfl, by first | rw [cB_2 (by assumption)] | rw [cB_n (by assumption)]⟩) (Nat.le_of_ble_eq_true rfl) (Nat.le_of_ble_eq_true rfl) dX0_cellsOfByte_12

def wq_X0_cellsOfSector : List Cond := .code yX0_cellsOfSector cX0_cellsOfSector 2 (some .int) :: (([.methodLink RX0 11 yX0_cellsOfByte, .static yX0_cellsOfByte, .initialized RX0] : List Cond) ++ (wq_X0_cellsOfByte ++ ([] : List Cond)))
theorem gd_X0_cellsOfSector : wq_X0_cellsOfSector.all goodWord = true := by decide +kernel
theorem h_X0_cellsOfSector_0 : GoodIn wq_X0_cellsOfSector (va_wsS RX0 11 yX0_cellsOfByte wq_X0_cellsOfByte) := goodIn_app (goodIn_r _ [1, 2, 3] (by decide +kernel) (by decide +kernel)) (goodIn_sub (fun w h => List.mem_cons_of_mem _ (List.mem_append_right _ (List.mem_append_left _ h))) gd_X0_cellsOfByte)
set_option maxHeartbeats 4000000 in
set_option maxRecDepth 100000 in
theorem c_X0_cellsOfSector (l : Launch) (D : va_G) (kA : Nat → ClassId) (z : Nat) (cd k : Nat) (hc : cd < 2 ^ 31) (hk : k ≤ 4) : mI l D (tyL kA) z yX0_cellsOfSector wq_X0_cellsOfSector ({ frames := 2, cells := 0, slots := 0, locals := 40 }) [.int (nI cd), .int (nI k)] [] (fun r w => w = [] ∧ (r = nI (10 + (k + 3) * cB cd + 1))) := by
  refine ofI (cc := cX0_cellsOfSector) (maxL := 2) RX0 rfl (by decide +kernel) rfl (Nat.le_of_ble_eq_true rfl) ?_
  intro p e s m args below meth c A ls hE
  obtain ⟨hx, hb, hr, hml, hts, hown, hlocks, hA, hS, hP, hK, hD, hG, hl⟩ := hE
  have hl : lv_has ls 2 [(0, .int (nI cd)), (1, .int (nI k))] := hl
  have hH : s.heap = s.heap := rfl
  refine lv_bipush (v := nI 10) hx hb dX0_cellsOfSector_0 (by decide) ?_
  refine lv_iload_n hx hb dX0_cellsOfSector_2 rfl (lv_at hl 1 rfl) ?_
  refine lv_iconst (v := nI 3) hx hb dX0_cellsOfSector_3 (by decide) ?_
  refine lv_iadd hx hb dX0_cellsOfSector_4 ?_
  rw [nI_add k 3]
  refine lv_iload_n hx hb dX0_cellsOfSector_5 rfl (lv_at hl 0 rfl) ?_
  have hF := va_free (wc := []) hD hS hA [] rfl
  refine va_calli (va_runS (As := [.int (nI cd)]) (rest := [.int (nI (k + 3)), .int (nI 10)]) ⟨hx, hb, hml, hown, hts⟩ (c_X0_cellsOfByte l D kA z cd (by first | assumption | omega) _) (va_cwS 1 hts h_X0_cellsOfSector_0 rfl rfl rfl (by decide +kernel) ⟨Nat.le_of_ble_eq_true rfl, Nat.le_of_ble_eq_true rfl⟩) (fPs hK hP hD hS hG hF [] (by decide) rfl) rfl rfl hl.1 rfl (lv_room (Nat.le_of_ble_eq_true rfl)) dX0_cellsOfSector_6 ⟨Nat.le_of_ble_eq_true rfl, Nat.le_of_ble_eq_true rfl⟩) hS (fun q _ h => hF q h) hF (fun r_1 w1 t H locs ht hvm hw hB hz1 hk1 hS => ?_)
  obtain ⟨hP, hD⟩ := fJ (wr := []) hP hD [] [] rfl rfl (by decide) (by decide) hk1 hF ht hB
  try dsimp only at hw
  obtain ⟨rfl, e_1⟩ := hw
  replace e_1 := e_1.symm
  subst e_1
  have hP : va_P D vwCl [] H := hP
  have hD : va_D A [] := hD
  refine lv_imul hx hb dX0_cellsOfSector_9 ?_
  rw [pk_mul (k + 3) (cB cd)]
  refine lv_iadd hx hb dX0_cellsOfSector_10 ?_
  rw [nI_add 10 ((k + 3) * (cB cd))]
  refine lv_iconst (v := nI 1) hx hb dX0_cellsOfSector_11 (by decide) ?_
  refine lv_iadd hx hb dX0_cellsOfSector_12 ?_
  rw [nI_add (10 + ((k + 3) * (cB cd))) 1]
  exact endI hx hb hr hlocks hK hP hD hS (⟨rfl, by first | rfl | assumption | omega | (rw [if_pos (by omega)]; first | done | rfl) | (rw [if_neg (by omega)]; first | done | rfl)⟩) (Nat.le_of_ble_eq_true rfl) (Nat.le_of_ble_eq_true rfl) dX0_cellsOfSector_13

def wq_X0_groupOf : List Cond := .code yX0_groupOf cX0_groupOf 1 (some .int) :: (([.fieldLink RX0 15 "FluxBench$Codes" "GROUPS" "[I"] : List Cond) ++ ([] : List Cond))
theorem gd_X0_groupOf : wq_X0_groupOf.all goodWord = true := by decide +kernel
set_option maxHeartbeats 4000000 in
set_option maxRecDepth 100000 in
theorem c_X0_groupOf (l : Launch) (D : va_G) (kA : Nat → ClassId) (z : Nat) (x : Int32)  : mI l D (tyL kA) z yX0_groupOf wq_X0_groupOf ({ frames := 0, cells := 0, slots := 0, locals := 0 }) [.int x] [] (fun r w => ∃ (v : Int32), w = [] ∧ (r = v)) := by
  refine ofI (cc := cX0_groupOf) (maxL := 1) RX0 rfl (by decide +kernel) rfl (Nat.le_of_ble_eq_true rfl) ?_
  intro p e s m args below meth c A ls hE
  obtain ⟨hx, hb, hr, hml, hts, hown, hlocks, hA, hS, hP, hK, hD, hG, hl⟩ := hE
  have hl : lv_has ls 1 [(0, .int x)] := hl
  have hH : s.heap = s.heap := rfl
  obtain ⟨tG, hZ9, hT9⟩ := hG.1
  refine lv_iload_n hx hb dX0_groupOf_0 rfl (lv_at hl 0 rfl) ?_
  refine lv_if_lt (tgt := 20) hx hb dX0_groupOf_1 (by decide) (fun c1 => ?_) (fun c1 => ?_)
  ·
    refine lv_iconst (v := nI 0) hx hb dX0_groupOf_20 (by decide) ?_
    exact endI hx hb hr hlocks hK hP hD hS (⟨(nI 0), rfl, by first | rfl | assumption | omega | (rw [if_pos (by omega)]; first | done | rfl) | (rw [if_neg (by omega)]; first | done | rfl)⟩) (Nat.le_of_ble_eq_true rfl) (Nat.le_of_ble_eq_true rfl) dX0_groupOf_21
  ·
    obtain ⟨j, hj9, rfl⟩ := rq_neg c1
    refine lv_iload_n hx hb dX0_groupOf_4 rfl (lv_at hl 0 rfl) ?_
    refine va_gets hx hb hZ9 hS hown (wAt hts 1 (w := .fieldLink RX0 15 "FluxBench$Codes" "GROUPS" "[I") rfl) (fun _ h9 => h9) dX0_groupOf_5 ?_
    refine va_tlen (v := nI 16) hx hb hT9 hS rfl dX0_groupOf_8 ?_
    refine lv_icmp_ge (tgt := 20) hx hb dX0_groupOf_9 (by decide) (fun c9 => ?_) (fun c9 => ?_)
    ·
      rw [qle (a := 16) (b := j) (by omega) (by omega)] at c9
      refine lv_iconst (v := nI 0) hx hb dX0_groupOf_20 (by decide) ?_
      exact endI hx hb hr hlocks hK hP hD hS (⟨(nI 0), rfl, by first | rfl | assumption | omega | (rw [if_pos (by omega)]; first | done | rfl) | (rw [if_neg (by omega)]; first | done | rfl)⟩) (Nat.le_of_ble_eq_true rfl) (Nat.le_of_ble_eq_true rfl) dX0_groupOf_21
    ·
      rw [qle (a := 16) (b := j) (by omega) (by omega)] at c9
      refine va_gets hx hb hZ9 hS hown (wAt hts 1 (w := .fieldLink RX0 15 "FluxBench$Codes" "GROUPS" "[I") rfl) (fun _ h9 => h9) dX0_groupOf_12 ?_
      refine lv_iload_n hx hb dX0_groupOf_15 rfl (lv_at hl 0 rfl) ?_
      refine va_ti hx hb hT9 hS (v := .int (gI j)) (vp_in_nI (n := j) (by omega) (by decide)) (by rw [nI_clamp (n := j) (by omega)]) dX0_groupOf_16 ?_
      refine lv_goto (tgt := 21) hx hb dX0_groupOf_17 (by decide) ?_
      exact endI hx hb hr hlocks hK hP hD hS (⟨(gI j), rfl, by first | rfl | assumption | omega | (rw [if_pos (by omega)]; first | done | rfl) | (rw [if_neg (by omega)]; first | done | rfl)⟩) (Nat.le_of_ble_eq_true rfl) (Nat.le_of_ble_eq_true rfl) dX0_groupOf_21

def wq_X0_byteOfGroups : List Cond := .code yX0_byteOfGroups cX0_byteOfGroups 4 (some .int) :: (([.fieldLink RX0 15 "FluxBench$Codes" "GROUPS" "[I"] : List Cond) ++ ([] : List Cond))
theorem gd_X0_byteOfGroups : wq_X0_byteOfGroups.all goodWord = true := by decide +kernel
set_option maxHeartbeats 4000000 in
set_option maxRecDepth 100000 in
theorem c_X0_byteOfGroups (l : Launch) (D : va_G) (kA : Nat → ClassId) (z : Nat) (x : Int32)  : mI l D (tyL kA) z yX0_byteOfGroups wq_X0_byteOfGroups ({ frames := 0, cells := 0, slots := 0, locals := 0 }) [.int x] [] (fun r w => w = [] ∧ (bQ r)) := by
  refine ofI (cc := cX0_byteOfGroups) (maxL := 4) RX0 rfl (by decide +kernel) rfl (Nat.le_of_ble_eq_true rfl) ?_
  intro p e s m args below meth c A ls hE
  obtain ⟨hx, hb, hr, hml, hts, hown, hlocks, hA, hS, hP, hK, hD, hG, hl⟩ := hE
  have hl : lv_has ls 4 [(0, .int x)] := hl
  have hH : s.heap = s.heap := rfl
  obtain ⟨tG, hZ9, hT9⟩ := hG.1
  refine lv_iconst (v := -1) hx hb dX0_byteOfGroups_0 (by decide) ?_
  refine lv_istore_n (lv' := [(1, .int (-1)), (0, .int x)]) hx hb dX0_byteOfGroups_1 rfl hl (by decide) rfl (fun ls hl => ?_)
  refine lv_iconst (v := -1) hx hb dX0_byteOfGroups_2 (by decide) ?_
  refine lv_istore_n (lv' := [(2, .int (-1)), (1, .int (-1)), (0, .int x)]) hx hb dX0_byteOfGroups_3 rfl hl (by decide) rfl (fun ls hl => ?_)
  refine lv_iconst (v := nI 0) hx hb dX0_byteOfGroups_4 (by decide) ?_
  refine lv_istore_n (lv' := [(3, .int (nI 0)), (2, .int (-1)), (1, .int (-1)), (0, .int x)]) hx hb dX0_byteOfGroups_5 rfl hl (by decide) rfl (fun ls hl => ?_)
  have lp_6 : ∀ (n_6 : Nat) (hi : Int32) (lo : Int32) (i : Nat), 16 - i < n_6 → (i ≤ 16) → (gQ hi) → (gQ lo) → ∀ (H : Heap) (locs : List Loc) (ls : Array Slot), va_P D vwCl [] H → va_D A [] → va_S A s.heap H locs → lv_has ls 4 [(3, .int (nI i)), (2, .int lo), (1, .int hi), (0, .int x)] → W p l e ({ frames := 0, cells := 0, slots := 0, locals := 0 }) s m args below meth c H locs 0 0 (MQ below (va_Qi (fun r w => w = [] ∧ (bQ r)) (fB D (tyL kA) A) A) args s 0 0 A) (F0 m 6 ls []) := by
    clear hP hD hS hl
    intro n_6
    induction n_6 with
    | zero =>
      intro hi lo i hm_6 hi16 hq1 hq2
      exact absurd hm_6 (by omega)
    | succ n_6 ih_6 =>
      intro hi lo i hm_6 hi16 hq1 hq2 H locs ls hP hD hS hl
      refine lv_iload_n hx hb dX0_byteOfGroups_6 rfl (lv_at hl 0 rfl) ?_
      refine va_gets hx hb hZ9 hS hown (wAt hts 1 (w := .fieldLink RX0 15 "FluxBench$Codes" "GROUPS" "[I") rfl) (fun _ h9 => h9) dX0_byteOfGroups_7 ?_
      refine va_tlen (v := nI 16) hx hb hT9 hS rfl dX0_byteOfGroups_10 ?_
      refine lv_icmp_ge (tgt := 55) hx hb dX0_byteOfGroups_11 (by decide) (fun c11 => ?_) (fun c11 => ?_)
      ·
        rw [qle (a := 16) (b := i) (by omega) (by omega)] at c11
        refine lv_iload_n hx hb dX0_byteOfGroups_55 rfl (lv_at hl 2 rfl) ?_
        refine lv_iconst (v := -1) hx hb dX0_byteOfGroups_56 (by decide) ?_
        refine lv_icmp_eq (tgt := 65) hx hb dX0_byteOfGroups_57 (by decide) (fun c57 => ?_) (fun c57 => ?_)
        ·
          refine lv_iconst (v := -1) hx hb dX0_byteOfGroups_65 (by decide) ?_
          refine lv_goto (tgt := 75) hx hb dX0_byteOfGroups_66 (by decide) ?_
          exact endI hx hb hr hlocks hK hP hD hS (⟨rfl, by first | exact bQ_m | exact bQ_hl hq1 hq2 c57 c62⟩) (Nat.le_of_ble_eq_true rfl) (Nat.le_of_ble_eq_true rfl) dX0_byteOfGroups_75
        ·
          refine lv_iload_n hx hb dX0_byteOfGroups_60 rfl (lv_at hl 1 rfl) ?_
          refine lv_iconst (v := -1) hx hb dX0_byteOfGroups_61 (by decide) ?_
          refine lv_icmp_ne (tgt := 69) hx hb dX0_byteOfGroups_62 (by decide) (fun c62 => ?_) (fun c62 => ?_)
          ·
            refine lv_iload_n hx hb dX0_byteOfGroups_69 rfl (lv_at hl 2 rfl) ?_
            refine lv_bipush (v := nI 16) hx hb dX0_byteOfGroups_70 (by decide) ?_
            refine lv_imul hx hb dX0_byteOfGroups_72 ?_
            refine lv_iload_n hx hb dX0_byteOfGroups_73 rfl (lv_at hl 1 rfl) ?_
            refine lv_iadd hx hb dX0_byteOfGroups_74 ?_
            exact endI hx hb hr hlocks hK hP hD hS (⟨rfl, by first | exact bQ_m | exact bQ_hl hq1 hq2 c57 c62⟩) (Nat.le_of_ble_eq_true rfl) (Nat.le_of_ble_eq_true rfl) dX0_byteOfGroups_75
          ·
            refine lv_iconst (v := -1) hx hb dX0_byteOfGroups_65 (by decide) ?_
            refine lv_goto (tgt := 75) hx hb dX0_byteOfGroups_66 (by decide) ?_
            exact endI hx hb hr hlocks hK hP hD hS (⟨rfl, by first | exact bQ_m | exact bQ_hl hq1 hq2 c57 c62⟩) (Nat.le_of_ble_eq_true rfl) (Nat.le_of_ble_eq_true rfl) dX0_byteOfGroups_75
      ·
        rw [qle (a := 16) (b := i) (by omega) (by omega)] at c11
        refine va_gets hx hb hZ9 hS hown (wAt hts 1 (w := .fieldLink RX0 15 "FluxBench$Codes" "GROUPS" "[I") rfl) (fun _ h9 => h9) dX0_byteOfGroups_14 ?_
        refine lv_iload_n hx hb dX0_byteOfGroups_17 rfl (lv_at hl 0 rfl) ?_
        refine va_ti hx hb hT9 hS (v := .int (gI i)) (vp_in_nI (n := i) (by omega) (by decide)) (by rw [nI_clamp (n := i) (by omega)]) dX0_byteOfGroups_18 ?_
        refine lv_iload_n hx hb dX0_byteOfGroups_19 rfl (lv_at hl 3 rfl) ?_
        refine lv_iconst (v := nI 5) hx hb dX0_byteOfGroups_20 (by decide) ?_
        refine lv_ishr hx hb dX0_byteOfGroups_21 ?_
        refine lv_icmp_ne (tgt := 29) hx hb dX0_byteOfGroups_22 (by decide) (fun c22 => ?_) (fun c22 => ?_)
        ·
          refine lv_iload_n hx hb dX0_byteOfGroups_29 rfl (lv_at hl 2 rfl) ?_
          refine lv_istore_n (lv' := [(1, .int hi), (3, .int (nI i)), (2, .int lo), (0, .int x)]) hx hb dX0_byteOfGroups_30 rfl hl (by decide) rfl (fun ls hl => ?_)
          refine va_gets hx hb hZ9 hS hown (wAt hts 1 (w := .fieldLink RX0 15 "FluxBench$Codes" "GROUPS" "[I") rfl) (fun _ h9 => h9) dX0_byteOfGroups_31 ?_
          refine lv_iload_n hx hb dX0_byteOfGroups_34 rfl (lv_at hl 1 rfl) ?_
          refine va_ti hx hb hT9 hS (v := .int (gI i)) (vp_in_nI (n := i) (by omega) (by decide)) (by rw [nI_clamp (n := i) (by omega)]) dX0_byteOfGroups_35 ?_
          refine lv_iload_n hx hb dX0_byteOfGroups_36 rfl (lv_at hl 3 rfl) ?_
          refine lv_bipush (v := nI 32) hx hb dX0_byteOfGroups_37 (by decide) ?_
          refine lv_irem hx hb dX0_byteOfGroups_39 (by decide) ?_
          refine lv_icmp_ne (tgt := 47) hx hb dX0_byteOfGroups_40 (by decide) (fun c40 => ?_) (fun c40 => ?_)
          ·
            refine lv_iload_n hx hb dX0_byteOfGroups_47 rfl (lv_at hl 2 rfl) ?_
            refine lv_istore_n (lv' := [(2, .int lo), (1, .int hi), (3, .int (nI i)), (0, .int x)]) hx hb dX0_byteOfGroups_48 rfl hl (by decide) rfl (fun ls hl => ?_)
            refine lv_iinc (v := nI (i + 1)) (lv' := [(3, .int (nI (i + 1))), (2, .int lo), (1, .int hi), (0, .int x)]) hx hb dX0_byteOfGroups_49 hl (k := 2) rfl (nI_add i 1) (by decide) rfl (fun ls hl => ?_)
            refine lv_goto (tgt := 6) hx hb dX0_byteOfGroups_52 (by decide) ?_
            exact ih_6 hi lo (i + 1) (by omega) (by first | assumption | omega | rfl) hq1 hq2 _ _ _ (hP.sub [] rfl) (hD.sub [] (by decide) rfl) hS (lv_sub hl [0, 1, 2, 3] rfl)
          ·
            refine lv_iload_n hx hb dX0_byteOfGroups_43 rfl (lv_at hl 1 rfl) ?_
            refine lv_goto (tgt := 48) hx hb dX0_byteOfGroups_44 (by decide) ?_
            refine lv_istore_n (lv' := [(2, .int (nI i)), (1, .int hi), (3, .int (nI i)), (0, .int x)]) hx hb dX0_byteOfGroups_48 rfl hl (by decide) rfl (fun ls hl => ?_)
            refine lv_iinc (v := nI (i + 1)) (lv' := [(3, .int (nI (i + 1))), (2, .int (nI i)), (1, .int hi), (0, .int x)]) hx hb dX0_byteOfGroups_49 hl (k := 2) rfl (nI_add i 1) (by decide) rfl (fun ls hl => ?_)
            refine lv_goto (tgt := 6) hx hb dX0_byteOfGroups_52 (by decide) ?_
            exact ih_6 hi (nI i) (i + 1) (by omega) (by first | assumption | omega | rfl) hq1 (gQ_n (by omega)) _ _ _ (hP.sub [] rfl) (hD.sub [] (by decide) rfl) hS (lv_sub hl [0, 1, 2, 3] rfl)
        ·
          refine lv_iload_n hx hb dX0_byteOfGroups_25 rfl (lv_at hl 0 rfl) ?_
          refine lv_goto (tgt := 30) hx hb dX0_byteOfGroups_26 (by decide) ?_
          refine lv_istore_n (lv' := [(1, .int (nI i)), (3, .int (nI i)), (2, .int lo), (0, .int x)]) hx hb dX0_byteOfGroups_30 rfl hl (by decide) rfl (fun ls hl => ?_)
          refine va_gets hx hb hZ9 hS hown (wAt hts 1 (w := .fieldLink RX0 15 "FluxBench$Codes" "GROUPS" "[I") rfl) (fun _ h9 => h9) dX0_byteOfGroups_31 ?_
          refine lv_iload_n hx hb dX0_byteOfGroups_34 rfl (lv_at hl 1 rfl) ?_
          refine va_ti hx hb hT9 hS (v := .int (gI i)) (vp_in_nI (n := i) (by omega) (by decide)) (by rw [nI_clamp (n := i) (by omega)]) dX0_byteOfGroups_35 ?_
          refine lv_iload_n hx hb dX0_byteOfGroups_36 rfl (lv_at hl 3 rfl) ?_
          refine lv_bipush (v := nI 32) hx hb dX0_byteOfGroups_37 (by decide) ?_
          refine lv_irem hx hb dX0_byteOfGroups_39 (by decide) ?_
          refine lv_icmp_ne (tgt := 47) hx hb dX0_byteOfGroups_40 (by decide) (fun c40 => ?_) (fun c40 => ?_)
          ·
            refine lv_iload_n hx hb dX0_byteOfGroups_47 rfl (lv_at hl 2 rfl) ?_
            refine lv_istore_n (lv' := [(2, .int lo), (1, .int (nI i)), (3, .int (nI i)), (0, .int x)]) hx hb dX0_byteOfGroups_48 rfl hl (by decide) rfl (fun ls hl => ?_)
            refine lv_iinc (v := nI (i + 1)) (lv' := [(3, .int (nI (i + 1))), (2, .int lo), (1, .int (nI i)), (0, .int x)]) hx hb dX0_byteOfGroups_49 hl (k := 2) rfl (nI_add i 1) (by decide) rfl (fun ls hl => ?_)
            refine lv_goto (tgt := 6) hx hb dX0_byteOfGroups_52 (by decide) ?_
            exact ih_6 (nI i) lo (i + 1) (by omega) (by first | assumption | omega | rfl) (gQ_n (by omega)) hq2 _ _ _ (hP.sub [] rfl) (hD.sub [] (by decide) rfl) hS (lv_sub hl [0, 1, 2, 3] rfl)
          ·
            refine lv_iload_n hx hb dX0_byteOfGroups_43 rfl (lv_at hl 1 rfl) ?_
            refine lv_goto (tgt := 48) hx hb dX0_byteOfGroups_44 (by decide) ?_
            refine lv_istore_n (lv' := [(2, .int (nI i)), (1, .int (nI i)), (3, .int (nI i)), (0, .int x)]) hx hb dX0_byteOfGroups_48 rfl hl (by decide) rfl (fun ls hl => ?_)
            refine lv_iinc (v := nI (i + 1)) (lv' := [(3, .int (nI (i + 1))), (2, .int (nI i)), (1, .int (nI i)), (0, .int x)]) hx hb dX0_byteOfGroups_49 hl (k := 2) rfl (nI_add i 1) (by decide) rfl (fun ls hl => ?_)
            refine lv_goto (tgt := 6) hx hb dX0_byteOfGroups_52 (by decide) ?_
            exact ih_6 (nI i) (nI i) (i + 1) (by omega) (by first | assumption | omega | rfl) (gQ_n (by omega)) (gQ_n (by omega)) _ _ _ (hP.sub [] rfl) (hD.sub [] (by decide) rfl) hS (lv_sub hl [0, 1, 2, 3] rfl)
  exact lp_6 17 (-1) (-1) 0 (by omega) (by first | assumption | omega | rfl) gQ_m gQ_m _ _ _ (hP.sub [] rfl) (hD.sub [] (by decide) rfl) hS (lv_sub hl [0, 1, 2, 3] rfl)

def wq_X0_byteAt : List Cond := .code yX0_byteAt cX0_byteAt 9 (some .int) :: (([.methodLink RX0 19 yX2_at, .instanceMethod yX2_at, .selects RX2 yX2_at yX2_at, .initialized RX2, .methodLink RX0 24 yX0_byteOfGroups, .static yX0_byteOfGroups, .initialized RX0] : List Cond) ++ (wq_X2_at_b ++ (wq_X0_byteOfGroups ++ ([] : List Cond))))
theorem gd_X0_byteAt : wq_X0_byteAt.all goodWord = true := by decide +kernel
theorem h_X0_byteAt_0 : GoodIn wq_X0_byteAt (wsV RX0 19 RX2 yX2_at wq_X2_at_b) := goodIn_app (goodIn_r _ [1, 2, 3, 4] (by decide +kernel) (by decide +kernel)) (goodIn_sub (fun w h => List.mem_cons_of_mem _ (List.mem_append_right _ (List.mem_append_left _ h))) gd_X2_at_b)
theorem h_X0_byteAt_1 : GoodIn wq_X0_byteAt (va_wsS RX0 24 yX0_byteOfGroups wq_X0_byteOfGroups) := goodIn_app (goodIn_r _ [5, 6, 7] (by decide +kernel) (by decide +kernel)) (goodIn_sub (fun w h => List.mem_cons_of_mem _ (List.mem_append_right _ (List.mem_append_right _ (List.mem_append_left _ h)))) gd_X0_byteOfGroups)
set_option maxHeartbeats 4000000 in
set_option maxRecDepth 100000 in
theorem c_X0_byteAt (l : Launch) (D : va_G) (kA : Nat → ClassId) (z : Nat) (h0 a ln pl cd : Nat) (wd : Int32) (f : Nat → Int32) (h1 : ln ≤ 400) (hf : B01 f) (hp : pl ≤ 1000) (hc : cd < 2 ^ 31) : mI l D (tyL kA) z yX0_byteAt wq_X0_byteAt ({ frames := 2, cells := 0, slots := 0, locals := 60 }) [.ref h0, .int (nI pl), .int (nI cd)] [(h0, .inr (1, [.ref a, .int (nI ln), .int wd])), (a, .inl (kA 0, 400, .inl f))] (fun r w => w = [(h0, .inr (1, [.ref a, .int (nI ln), .int wd])), (a, .inl (kA 0, 400, .inl f))] ∧ (bQ r)) := by
  refine ofI (cc := cX0_byteAt) (maxL := 9) RX0 rfl (by decide +kernel) rfl (Nat.le_of_ble_eq_true rfl) ?_
  intro p e s m args below meth c A ls hE
  obtain ⟨hx, hb, hr, hml, hts, hown, hlocks, hA, hS, hP, hK, hD, hG, hl⟩ := hE
  have hl : lv_has ls 9 [(0, .ref h0), (1, .int (nI pl)), (2, .int (nI cd))] := hl
  have hH : s.heap = s.heap := rfl
  refine lv_iload_n hx hb dX0_byteAt_0 rfl (lv_at hl 2 rfl) ?_
  refine lv_iconst (v := nI 2) hx hb dX0_byteAt_1 (by decide) ?_
  refine lv_icmp_ne (tgt := 9) hx hb dX0_byteAt_2 (by decide) (fun c2 => ?_) (fun c2 => ?_)
  ·
    rw [qeq (a := cd) (b := 2) (by omega) (by omega)] at c2
    refine lv_iconst (v := nI 0) hx hb dX0_byteAt_9 (by decide) ?_
    refine lv_istore_n (lv' := [(3, .int (nI 0)), (0, .ref h0), (1, .int (nI pl)), (2, .int (nI cd))]) hx hb dX0_byteAt_10 rfl hl (by decide) rfl (fun ls hl => ?_)
    refine lv_iload_n hx hb dX0_byteAt_11 rfl (lv_at hl 0 rfl) ?_
    refine lv_if_eq (tgt := 19) hx hb dX0_byteAt_12 (by decide) (fun _ => ?_) (fun c12 => absurd (by decide) c12)
    refine lv_iload_n hx hb dX0_byteAt_19 rfl (lv_at hl 2 rfl) ?_
    refine lv_iconst (v := nI 1) hx hb dX0_byteAt_20 (by decide) ?_
    refine lv_iadd hx hb dX0_byteAt_21 ?_
    rw [nI_add pl 1]
    refine lv_istore (lv' := [(4, .int (nI (pl + 1))), (3, .int (nI 0)), (0, .ref h0), (1, .int (nI pl)), (2, .int (nI cd))]) hx hb dX0_byteAt_22 hl (by decide) rfl (fun ls hl => ?_)
    refine lv_iload_n hx hb dX0_byteAt_24 rfl (lv_at hl 1 rfl) ?_
    refine lv_if_eq (tgt := 32) hx hb dX0_byteAt_25 (by decide) (fun _ => ?_) (fun c25 => absurd (by decide) c25)
    refine lv_iconst (v := nI 2) hx hb dX0_byteAt_32 (by decide) ?_
    refine lv_istore (lv' := [(5, .int (nI 2)), (4, .int (nI (pl + 1))), (3, .int (nI 0)), (0, .ref h0), (1, .int (nI pl)), (2, .int (nI cd))]) hx hb dX0_byteAt_33 hl (by decide) rfl (fun ls hl => ?_)
    refine lv_iload_n hx hb dX0_byteAt_35 rfl (lv_at hl 2 rfl) ?_
    refine lv_if_eq (tgt := 44) hx hb dX0_byteAt_36 (by decide) (fun _ => ?_) (fun c36 => absurd (by decide) c36)
    refine lv_bipush (v := nI 8) hx hb dX0_byteAt_44 (by decide) ?_
    refine lv_istore (lv' := [(6, .int (nI 8)), (5, .int (nI 2)), (4, .int (nI (pl + 1))), (3, .int (nI 0)), (0, .ref h0), (1, .int (nI pl)), (2, .int (nI cd))]) hx hb dX0_byteAt_46 hl (by decide) rfl (fun ls hl => ?_)
    refine lv_iconst (v := nI 0) hx hb dX0_byteAt_48 (by decide) ?_
    refine lv_istore (lv' := [(7, .int (nI 0)), (6, .int (nI 8)), (5, .int (nI 2)), (4, .int (nI (pl + 1))), (3, .int (nI 0)), (0, .ref h0), (1, .int (nI pl)), (2, .int (nI cd))]) hx hb dX0_byteAt_49 hl (by decide) rfl (fun ls hl => ?_)
    refine lv_iconst (v := nI 0) hx hb dX0_byteAt_51 (by decide) ?_
    refine lv_istore (lv' := [(8, .int (nI 0)), (7, .int (nI 0)), (6, .int (nI 8)), (5, .int (nI 2)), (4, .int (nI (pl + 1))), (3, .int (nI 0)), (0, .ref h0), (1, .int (nI pl)), (2, .int (nI cd))]) hx hb dX0_byteAt_52 hl (by decide) rfl (fun ls hl => ?_)
    have lp_54 : ∀ (n_54 : Nat) (i : Nat) (wv : Nat), 8 - i < n_54 → (i ≤ 8) → (wv + 1 ≤ 2 ^ i) → ∀ (H : Heap) (locs : List Loc) (ls : Array Slot), va_P D vwCl [(h0, .inr (1, [.ref a, .int (nI ln), .int wd])), (a, .inl (kA 0, 400, .inl f))] H → va_D A [(h0, .inr (1, [.ref a, .int (nI ln), .int wd])), (a, .inl (kA 0, 400, .inl f))] → va_S A s.heap H locs → lv_has ls 9 [(8, .int (nI i)), (7, .int (nI wv)), (6, .int (nI 8)), (5, .int (nI 2)), (4, .int (nI (pl + 1))), (3, .int (nI 0)), (0, .ref h0), (1, .int (nI pl)), (2, .int (nI cd))] → W p l e ({ frames := 2, cells := 0, slots := 0, locals := 60 }) s m args below meth c H locs 0 0 (MQ below (va_Qi (fun r w => w = [(h0, .inr (1, [.ref a, .int (nI ln), .int wd])), (a, .inl (kA 0, 400, .inl f))] ∧ (bQ r)) (fB D (tyL kA) A) A) args s 0 0 A) (F0 m 54 ls []) := by
      clear hP hD hS hl
      intro n_54
      induction n_54 with
      | zero =>
        intro i wv hm_54 hi hwb
        exact absurd hm_54 (by omega)
      | succ n_54 ih_54 =>
        intro i wv hm_54 hi hwb H locs ls hP hD hS hl
        refine lv_iload hx hb dX0_byteAt_54 (lv_at hl 0 rfl) ?_
        refine lv_iload hx hb dX0_byteAt_56 (lv_at hl 2 rfl) ?_
        refine lv_icmp_ge (tgt := 86) hx hb dX0_byteAt_58 (by decide) (fun c58 => ?_) (fun c58 => ?_)
        ·
          rw [qle (a := 8) (b := i) (by omega) (by omega)] at c58
          refine lv_iload_n hx hb dX0_byteAt_86 rfl (lv_at hl 5 rfl) ?_
          refine lv_if_eq (tgt := 98) hx hb dX0_byteAt_87 (by decide) (fun _ => ?_) (fun c87 => absurd (by decide) c87)
          refine lv_iload hx hb dX0_byteAt_98 (lv_at hl 1 rfl) ?_
          exact endI hx hb hr hlocks hK hP hD hS (⟨rfl, by first | assumption | exact bQ_8 c58 hi hwb⟩) (Nat.le_of_ble_eq_true rfl) (Nat.le_of_ble_eq_true rfl) dX0_byteAt_100
        ·
          rw [qle (a := 8) (b := i) (by omega) (by omega)] at c58
          refine lv_iconst (v := nI 2) hx hb dX0_byteAt_61 (by decide) ?_
          refine lv_iload hx hb dX0_byteAt_62 (lv_at hl 1 rfl) ?_
          refine lv_imul hx hb dX0_byteAt_64 ?_
          rw [pk_mul 2 wv]
          refine lv_aload_n hx hb dX0_byteAt_65 rfl (lv_at hl 6 rfl) ?_
          refine lv_iload hx hb dX0_byteAt_66 (lv_at hl 4 rfl) ?_
          refine lv_iload hx hb dX0_byteAt_68 (lv_at hl 0 rfl) ?_
          refine lv_iload hx hb dX0_byteAt_70 (lv_at hl 3 rfl) ?_
          refine lv_imul hx hb dX0_byteAt_72 ?_
          rw [pk_mul i 2]
          refine lv_iadd hx hb dX0_byteAt_73 ?_
          rw [nI_add (pl + 1) (i * 2)]
          have hF := va_free (wc := [(h0, .inr (1, [.ref a, .int (nI ln), .int wd])), (a, .inl (kA 0, 400, .inl f))]) hD hS hA [0, 1] rfl
          refine va_calli (va_runV (As := [.int (nI (pl + 1 + (i * 2)))]) (rest := [.int (nI (2 * wv))]) ⟨hx, hb, hml, hown, hts⟩ (c_X2_at_b l D kA z h0 a ln (pl + 1 + (i * 2)) wd f (by first | assumption | omega) (by first | assumption | omega) (by first | assumption | omega) _) (cwV 1 hts h_X0_byteAt_0 rfl rfl rfl (by decide +kernel) ⟨Nat.le_of_ble_eq_true rfl, Nat.le_of_ble_eq_true rfl⟩) (fPv hK hP hD hS hG hF [0, 1] (by decide) rfl 0 1 rfl rfl rfl) rfl rfl hl.1 rfl (lv_room (Nat.le_of_ble_eq_true rfl)) dX0_byteAt_74 ⟨Nat.le_of_ble_eq_true rfl, Nat.le_of_ble_eq_true rfl⟩) hS (fun q _ h => hF q h) hF (fun r_1 w1 t H locs ht hvm hw hB hz1 hk1 hS => ?_)
          obtain ⟨hP, hD⟩ := fJ (wr := []) hP hD [0, 1] [] rfl rfl (by decide) (by decide) hk1 hF ht hB
          try dsimp only at hw
          obtain ⟨b_1, rfl, hb_1, e_1, e_2⟩ := hw
          replace e_1 := e_1.symm
          subst e_1
          have hP : va_P D vwCl [(h0, .inr (1, [.ref a, .int (nI ln), .int wd])), (a, .inl (kA 0, 400, .inl f))] H := hP
          have hD : va_D A [(h0, .inr (1, [.ref a, .int (nI ln), .int wd])), (a, .inl (kA 0, 400, .inl f))] := hD
          refine lv_iadd hx hb dX0_byteAt_77 ?_
          rw [nI_add (2 * wv) b_1]
          refine lv_istore (lv' := [(7, .int (nI (2 * wv + b_1))), (8, .int (nI i)), (6, .int (nI 8)), (5, .int (nI 2)), (4, .int (nI (pl + 1))), (3, .int (nI 0)), (0, .ref h0), (1, .int (nI pl)), (2, .int (nI cd))]) hx hb dX0_byteAt_78 hl (by decide) rfl (fun ls hl => ?_)
          refine lv_iinc (v := nI (i + 1)) (lv' := [(8, .int (nI (i + 1))), (7, .int (nI (2 * wv + b_1))), (6, .int (nI 8)), (5, .int (nI 2)), (4, .int (nI (pl + 1))), (3, .int (nI 0)), (0, .ref h0), (1, .int (nI pl)), (2, .int (nI cd))]) hx hb dX0_byteAt_80 hl (k := 1) rfl (nI_add i 1) (by decide) rfl (fun ls hl => ?_)
          refine lv_goto (tgt := 54) hx hb dX0_byteAt_83 (by decide) ?_
          exact ih_54 (i + 1) (2 * wv + b_1) (by omega) (by first | assumption | omega | rfl) (by rw [Nat.pow_succ]; omega) _ _ _ (hP.sub [0, 1] rfl) (hD.sub [0, 1] (by decide) rfl) hS (lv_sub hl [0, 1, 2, 3, 4, 5, 6, 7, 8] rfl)
    exact lp_54 9 0 0 (by omega) (by first | assumption | omega | rfl) (by decide) _ _ _ (hP.sub [0, 1] rfl) (hD.sub [0, 1] (by decide) rfl) hS (lv_sub hl [0, 1, 2, 3, 4, 5, 6, 7, 8] rfl)
  ·
    rw [qeq (a := cd) (b := 2) (by omega) (by omega)] at c2
    refine lv_iconst (v := nI 1) hx hb dX0_byteAt_5 (by decide) ?_
    refine lv_goto (tgt := 10) hx hb dX0_byteAt_6 (by decide) ?_
    refine lv_istore_n (lv' := [(3, .int (nI 1)), (0, .ref h0), (1, .int (nI pl)), (2, .int (nI cd))]) hx hb dX0_byteAt_10 rfl hl (by decide) rfl (fun ls hl => ?_)
    refine lv_iload_n hx hb dX0_byteAt_11 rfl (lv_at hl 0 rfl) ?_
    refine lv_if_eq (tgt := 19) hx hb dX0_byteAt_12 (by decide) (fun c12 => absurd c12 (by decide)) (fun _ => ?_)
    refine lv_iload_n hx hb dX0_byteAt_15 rfl (lv_at hl 2 rfl) ?_
    refine lv_goto (tgt := 22) hx hb dX0_byteAt_16 (by decide) ?_
    refine lv_istore (lv' := [(4, .int (nI pl)), (3, .int (nI 1)), (0, .ref h0), (1, .int (nI pl)), (2, .int (nI cd))]) hx hb dX0_byteAt_22 hl (by decide) rfl (fun ls hl => ?_)
    refine lv_iload_n hx hb dX0_byteAt_24 rfl (lv_at hl 1 rfl) ?_
    refine lv_if_eq (tgt := 32) hx hb dX0_byteAt_25 (by decide) (fun c25 => absurd c25 (by decide)) (fun _ => ?_)
    refine lv_iconst (v := nI 1) hx hb dX0_byteAt_28 (by decide) ?_
    refine lv_goto (tgt := 33) hx hb dX0_byteAt_29 (by decide) ?_
    refine lv_istore (lv' := [(5, .int (nI 1)), (4, .int (nI pl)), (3, .int (nI 1)), (0, .ref h0), (1, .int (nI pl)), (2, .int (nI cd))]) hx hb dX0_byteAt_33 hl (by decide) rfl (fun ls hl => ?_)
    refine lv_iload_n hx hb dX0_byteAt_35 rfl (lv_at hl 2 rfl) ?_
    refine lv_if_eq (tgt := 44) hx hb dX0_byteAt_36 (by decide) (fun c36 => absurd c36 (by decide)) (fun _ => ?_)
    refine lv_bipush (v := nI 10) hx hb dX0_byteAt_39 (by decide) ?_
    refine lv_goto (tgt := 46) hx hb dX0_byteAt_41 (by decide) ?_
    refine lv_istore (lv' := [(6, .int (nI 10)), (5, .int (nI 1)), (4, .int (nI pl)), (3, .int (nI 1)), (0, .ref h0), (1, .int (nI pl)), (2, .int (nI cd))]) hx hb dX0_byteAt_46 hl (by decide) rfl (fun ls hl => ?_)
    refine lv_iconst (v := nI 0) hx hb dX0_byteAt_48 (by decide) ?_
    refine lv_istore (lv' := [(7, .int (nI 0)), (6, .int (nI 10)), (5, .int (nI 1)), (4, .int (nI pl)), (3, .int (nI 1)), (0, .ref h0), (1, .int (nI pl)), (2, .int (nI cd))]) hx hb dX0_byteAt_49 hl (by decide) rfl (fun ls hl => ?_)
    refine lv_iconst (v := nI 0) hx hb dX0_byteAt_51 (by decide) ?_
    refine lv_istore (lv' := [(8, .int (nI 0)), (7, .int (nI 0)), (6, .int (nI 10)), (5, .int (nI 1)), (4, .int (nI pl)), (3, .int (nI 1)), (0, .ref h0), (1, .int (nI pl)), (2, .int (nI cd))]) hx hb dX0_byteAt_52 hl (by decide) rfl (fun ls hl => ?_)
    have lp_54 : ∀ (n_54 : Nat) (i : Nat) (wv : Int32), 10 - i < n_54 → (i ≤ 10) → ∀ (H : Heap) (locs : List Loc) (ls : Array Slot), va_P D vwCl [(h0, .inr (1, [.ref a, .int (nI ln), .int wd])), (a, .inl (kA 0, 400, .inl f))] H → va_D A [(h0, .inr (1, [.ref a, .int (nI ln), .int wd])), (a, .inl (kA 0, 400, .inl f))] → va_S A s.heap H locs → lv_has ls 9 [(8, .int (nI i)), (7, .int wv), (6, .int (nI 10)), (5, .int (nI 1)), (4, .int (nI pl)), (3, .int (nI 1)), (0, .ref h0), (1, .int (nI pl)), (2, .int (nI cd))] → W p l e ({ frames := 2, cells := 0, slots := 0, locals := 60 }) s m args below meth c H locs 0 0 (MQ below (va_Qi (fun r w => w = [(h0, .inr (1, [.ref a, .int (nI ln), .int wd])), (a, .inl (kA 0, 400, .inl f))] ∧ (bQ r)) (fB D (tyL kA) A) A) args s 0 0 A) (F0 m 54 ls []) := by
      clear hP hD hS hl
      intro n_54
      induction n_54 with
      | zero =>
        intro i wv hm_54 hi
        exact absurd hm_54 (by omega)
      | succ n_54 ih_54 =>
        intro i wv hm_54 hi H locs ls hP hD hS hl
        refine lv_iload hx hb dX0_byteAt_54 (lv_at hl 0 rfl) ?_
        refine lv_iload hx hb dX0_byteAt_56 (lv_at hl 2 rfl) ?_
        refine lv_icmp_ge (tgt := 86) hx hb dX0_byteAt_58 (by decide) (fun c58 => ?_) (fun c58 => ?_)
        ·
          rw [qle (a := 10) (b := i) (by omega) (by omega)] at c58
          refine lv_iload_n hx hb dX0_byteAt_86 rfl (lv_at hl 5 rfl) ?_
          refine lv_if_eq (tgt := 98) hx hb dX0_byteAt_87 (by decide) (fun c87 => absurd c87 (by decide)) (fun _ => ?_)
          refine lv_iload hx hb dX0_byteAt_90 (lv_at hl 1 rfl) ?_
          have hF := va_free (wc := []) hD hS hA [] rfl
          refine va_calli (va_runS (As := [.int wv]) (rest := []) ⟨hx, hb, hml, hown, hts⟩ (c_X0_byteOfGroups l D kA z wv  _) (va_cwS 1 hts h_X0_byteAt_1 rfl rfl rfl (by decide +kernel) ⟨Nat.le_of_ble_eq_true rfl, Nat.le_of_ble_eq_true rfl⟩) (fPs hK hP hD hS hG hF [] (by decide) rfl) rfl rfl hl.1 rfl (lv_room (Nat.le_of_ble_eq_true rfl)) dX0_byteAt_92 ⟨Nat.le_of_ble_eq_true rfl, Nat.le_of_ble_eq_true rfl⟩) hS (fun q _ h => hF q h) hF (fun r_2 w1 t H locs ht hvm hw hB hz1 hk1 hS => ?_)
          obtain ⟨hP, hD⟩ := fJ (wr := [(h0, .inr (1, [.ref a, .int (nI ln), .int wd])), (a, .inl (kA 0, 400, .inl f))]) hP hD [] [0, 1] rfl rfl (by decide) (by decide) hk1 hF ht hB
          try dsimp only at hw
          obtain ⟨rfl, q_1⟩ := hw
          have hP : va_P D vwCl [(h0, .inr (1, [.ref a, .int (nI ln), .int wd])), (a, .inl (kA 0, 400, .inl f))] H := hP
          have hD : va_D A [(h0, .inr (1, [.ref a, .int (nI ln), .int wd])), (a, .inl (kA 0, 400, .inl f))] := hD
          refine lv_goto (tgt := 100) hx hb dX0_byteAt_95 (by decide) ?_
          exact endI hx hb hr hlocks hK hP hD hS (⟨rfl, by first | assumption | exact bQ_8 c58 hi hwb⟩) (Nat.le_of_ble_eq_true rfl) (Nat.le_of_ble_eq_true rfl) dX0_byteAt_100
        ·
          rw [qle (a := 10) (b := i) (by omega) (by omega)] at c58
          refine lv_iconst (v := nI 2) hx hb dX0_byteAt_61 (by decide) ?_
          refine lv_iload hx hb dX0_byteAt_62 (lv_at hl 1 rfl) ?_
          refine lv_imul hx hb dX0_byteAt_64 ?_
          refine lv_aload_n hx hb dX0_byteAt_65 rfl (lv_at hl 6 rfl) ?_
          refine lv_iload hx hb dX0_byteAt_66 (lv_at hl 4 rfl) ?_
          refine lv_iload hx hb dX0_byteAt_68 (lv_at hl 0 rfl) ?_
          refine lv_iload hx hb dX0_byteAt_70 (lv_at hl 3 rfl) ?_
          refine lv_imul hx hb dX0_byteAt_72 ?_
          rw [pk_mul i 1]
          refine lv_iadd hx hb dX0_byteAt_73 ?_
          rw [nI_add pl (i * 1)]
          have hF := va_free (wc := [(h0, .inr (1, [.ref a, .int (nI ln), .int wd])), (a, .inl (kA 0, 400, .inl f))]) hD hS hA [0, 1] rfl
          refine va_calli (va_runV (As := [.int (nI (pl + (i * 1)))]) (rest := [.int ((nI 2) * wv)]) ⟨hx, hb, hml, hown, hts⟩ (c_X2_at_b l D kA z h0 a ln (pl + (i * 1)) wd f (by first | assumption | omega) (by first | assumption | omega) (by first | assumption | omega) _) (cwV 1 hts h_X0_byteAt_0 rfl rfl rfl (by decide +kernel) ⟨Nat.le_of_ble_eq_true rfl, Nat.le_of_ble_eq_true rfl⟩) (fPv hK hP hD hS hG hF [0, 1] (by decide) rfl 0 1 rfl rfl rfl) rfl rfl hl.1 rfl (lv_room (Nat.le_of_ble_eq_true rfl)) dX0_byteAt_74 ⟨Nat.le_of_ble_eq_true rfl, Nat.le_of_ble_eq_true rfl⟩) hS (fun q _ h => hF q h) hF (fun r_3 w1 t H locs ht hvm hw hB hz1 hk1 hS => ?_)
          obtain ⟨hP, hD⟩ := fJ (wr := []) hP hD [0, 1] [] rfl rfl (by decide) (by decide) hk1 hF ht hB
          try dsimp only at hw
          obtain ⟨b_2, rfl, hb_2, e_3, e_4⟩ := hw
          replace e_3 := e_3.symm
          subst e_3
          have hP : va_P D vwCl [(h0, .inr (1, [.ref a, .int (nI ln), .int wd])), (a, .inl (kA 0, 400, .inl f))] H := hP
          have hD : va_D A [(h0, .inr (1, [.ref a, .int (nI ln), .int wd])), (a, .inl (kA 0, 400, .inl f))] := hD
          refine lv_iadd hx hb dX0_byteAt_77 ?_
          refine lv_istore (lv' := [(7, .int (((nI 2) * wv) + (nI b_2))), (8, .int (nI i)), (6, .int (nI 10)), (5, .int (nI 1)), (4, .int (nI pl)), (3, .int (nI 1)), (0, .ref h0), (1, .int (nI pl)), (2, .int (nI cd))]) hx hb dX0_byteAt_78 hl (by decide) rfl (fun ls hl => ?_)
          refine lv_iinc (v := nI (i + 1)) (lv' := [(8, .int (nI (i + 1))), (7, .int (((nI 2) * wv) + (nI b_2))), (6, .int (nI 10)), (5, .int (nI 1)), (4, .int (nI pl)), (3, .int (nI 1)), (0, .ref h0), (1, .int (nI pl)), (2, .int (nI cd))]) hx hb dX0_byteAt_80 hl (k := 1) rfl (nI_add i 1) (by decide) rfl (fun ls hl => ?_)
          refine lv_goto (tgt := 54) hx hb dX0_byteAt_83 (by decide) ?_
          exact ih_54 (i + 1) (((nI 2) * wv) + (nI b_2)) (by omega) (by first | assumption | omega | rfl) _ _ _ (hP.sub [0, 1] rfl) (hD.sub [0, 1] (by decide) rfl) hS (lv_sub hl [0, 1, 2, 3, 4, 5, 6, 7, 8] rfl)
    exact lp_54 11 0 (nI 0) (by omega) (by first | assumption | omega | rfl) _ _ _ (hP.sub [0, 1] rfl) (hD.sub [0, 1] (by decide) rfl) hS (lv_sub hl [0, 1, 2, 3, 4, 5, 6, 7, 8] rfl)
