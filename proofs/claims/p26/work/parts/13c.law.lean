set_option maxHeartbeats 4000000 in
set_option maxRecDepth 100000 in
theorem law_body (l : Launch) (D : va_G) (kA : Nat → ClassId) (z : Nat) (hfl : l.stackTraces = false) {p : Program} {e : Env} {s : State} {m : MethodId} {args : Array Value} {below : List Frame} {meth : Method} {c : Code} {A : Nat → Prop} {ls : Array Slot} (hE : fE p s m args meth c D (tyL kA) z wq_L_law RL cL_law 16 (some .boolean) [.ref z] [] A ls) (hargs : args = #[Value.ref z]) (hA2 : ∀ q : Nat, A q → s.heap.size ≤ q) : W p l e room_1 s m args below meth c s.heap [] 0 0 (lw_Z below args s) (F0 m 0 ls []) := by
  have hE0 := hE
  obtain ⟨hx, hb, hr, hml, hts, hown, hlocks, hA, hS, hP, hK, hD, hG, hl⟩ := hE
  have hl : lv_has ls 16 [(0, .ref z)] := hl
  have hH : s.heap = s.heap := rfl
  obtain ⟨L9, xs9, hTz, hL9⟩ := hG.2.2.2.2
  refine lv_aload_n hx hb dL_law_0 rfl (lv_at hl 0 rfl) ?_
  refine lv_aload_n hx hb dL_law_1 rfl (lv_at hl 0 rfl) ?_
  refine lv_bipush (v := nI 20) hx hb dL_law_2 (by decide) ?_
  have hF := va_free (wc := []) hD hS hA [] rfl
  refine va_calli (va_runS (As := [.ref z, .int (nI 20)]) (rest := [.ref z]) ⟨hx, hb, hml, hown, hts⟩ (c_L_cell l D kA z 20 (by first | assumption | omega) _) (va_cwS 2 hts h_L_law_0 rfl rfl rfl (by decide +kernel) ⟨Nat.le_of_ble_eq_true rfl, Nat.le_of_ble_eq_true rfl⟩) (fPs hK hP hD hS hG hF [] (by decide) rfl) rfl rfl hl.1 rfl (lv_room (Nat.le_of_ble_eq_true rfl)) dL_law_4 ⟨Nat.le_of_ble_eq_true rfl, Nat.le_of_ble_eq_true rfl⟩) hS (fun q _ h => hF q h) hF (fun r_1 w1 t H locs ht hvm hw hB hz1 hk1 hS => ?_)
  obtain ⟨hP, hD⟩ := fJ (wr := []) hP hD [] [] rfl rfl (by decide) (by decide) hk1 hF ht hB
  try dsimp only at hw
  obtain ⟨v_1, rfl, e_1⟩ := hw
  replace e_1 := e_1.symm
  subst e_1
  have hP : va_P D vwCl [] H := hP
  have hD : va_D A [] := hD
  refine lv_iconst (v := nI 3) hx hb dL_law_7 (by decide) ?_
  have hF := va_free (wc := []) hD hS hA [] rfl
  refine va_calli (va_runS (As := [.int v_1, .int (nI 3)]) (rest := [.ref z]) ⟨hx, hb, hml, hown, hts⟩ (c_L_below l D kA z v_1 3 (by first | assumption | omega) (by first | assumption | omega) _) (va_cwS 2 hts h_L_law_1 rfl rfl rfl (by decide +kernel) ⟨Nat.le_of_ble_eq_true rfl, Nat.le_of_ble_eq_true rfl⟩) (fPs hK hP hD hS hG hF [] (by decide) rfl) rfl rfl hl.1 rfl (lv_room (Nat.le_of_ble_eq_true rfl)) dL_law_8 ⟨Nat.le_of_ble_eq_true rfl, Nat.le_of_ble_eq_true rfl⟩) hS (fun q _ h => hF q h) hF (fun r_2 w1 t H locs ht hvm hw hB hz1 hk1 hS => ?_)
  obtain ⟨hP, hD⟩ := fJ (wr := []) hP hD [] [] rfl rfl (by decide) (by decide) hk1 hF ht hB
  try dsimp only at hw
  obtain ⟨k_1, rfl, e_2, hkq_1⟩ := hw
  replace e_2 := e_2.symm
  subst e_2
  have hP : va_P D vwCl [] H := hP
  have hD : va_D A [] := hD
  have hF := va_free (wc := []) hD hS hA [] rfl
  refine va_callr (va_runS (As := [.ref z, .int (nI k_1)]) (rest := []) ⟨hx, hb, hml, hown, hts⟩ (c_L_bench l D kA z hfl k_1 (by first | assumption | omega) _) (va_cwS 2 hts h_L_law_2 rfl rfl rfl (by decide +kernel) ⟨Nat.le_of_ble_eq_true rfl, Nat.le_of_ble_eq_true rfl⟩) (fPs hK hP hD hS hG hF [] (by decide) rfl) rfl rfl hl.1 rfl (lv_room (Nat.le_of_ble_eq_true rfl)) dL_law_11 ⟨Nat.le_of_ble_eq_true rfl, Nat.le_of_ble_eq_true rfl⟩) hS (fun q _ h => hF q h) hF (fun u1 ra9 t H locs ht hvm hw hB hz1 hk1 hS => ?_)
  obtain ⟨ra_1, w1⟩ := u1
  obtain ⟨e0, hB⟩ := hB
  have e0 : ra_1 = ra9 := e0
  subst e0
  obtain ⟨hP, hD⟩ := fJ (wr := []) hP hD [] [] rfl rfl (by decide) (by decide) hk1 hF ht hB
  try dsimp only at hw
  obtain ⟨B_1, rfl, hbe_1, hL_1, hM_1, hM_2⟩ := hw
  have hP : va_P D vwCl (wB kA B_1) H := hP
  have hD : va_D A (wB kA B_1) := hD
  have hbe := hbe_1
  have hI := hL_1.1
  have hl42 := hL_1.2.2.1
  refine lv_astore_n (lv' := [(1, .ref ra_1), (0, .ref z)]) hx hb dL_law_14 rfl hl (by decide) rfl (fun ls hl => ?_)
  refine lv_aload_n hx hb dL_law_15 rfl (lv_at hl 0 rfl) ?_
  refine lv_iconst (v := nI 3) hx hb dL_law_16 (by decide) ?_
  have hF := chF [] hD hS hA
  refine va_calli (va_runV (As := [.int (nI 3)]) (rest := []) ⟨hx, hb, hml, hown, hts⟩ (c_X6_many_B3 l D kA z B_1 ra_1 (by first | assumption | omega) (by first | assumption | omega) _) (cwV 1 hts h_L_law_3 rfl rfl rfl (by decide +kernel) ⟨Nat.le_of_ble_eq_true rfl, Nat.le_of_ble_eq_true rfl⟩) (fPvB [] (hbe) hK hP hD hS hG hF) rfl rfl hl.1 rfl (lv_room (Nat.le_of_ble_eq_true rfl)) dL_law_17 ⟨Nat.le_of_ble_eq_true rfl, Nat.le_of_ble_eq_true rfl⟩) hS (fun q _ h => hF q h) hF (fun r_3 w1 t H locs ht hvm hw hB hz1 hk1 hS => ?_)
  obtain ⟨hP, hD⟩ := chJ [] hP hD hk1 hF ht hB
  try dsimp only at hw
  obtain ⟨rfl, e_3⟩ := hw
  replace e_3 := e_3.symm
  subst e_3
  have hP : va_P D vwCl (wB kA B_1) H := hP
  have hD : va_D A (wB kA B_1) := hD
  refine lv_istore_n (lv' := [(2, .int (nI (B_1.2 4))), (1, .ref ra_1), (0, .ref z)]) hx hb dL_law_20 rfl hl (by decide) rfl (fun ls hl => ?_)
  refine lv_iconst (v := nI 0) hx hb dL_law_21 (by decide) ?_
  refine lv_istore_n (lv' := [(3, .int (nI 0)), (2, .int (nI (B_1.2 4))), (1, .ref ra_1), (0, .ref z)]) hx hb dL_law_22 rfl hl (by decide) rfl (fun ls hl => ?_)
  refine lv_iconst (v := nI 0) hx hb dL_law_23 (by decide) ?_
  refine lv_istore (lv' := [(4, .int (nI 0)), (3, .int (nI 0)), (2, .int (nI (B_1.2 4))), (1, .ref ra_1), (0, .ref z)]) hx hb dL_law_24 hl (by decide) rfl (fun ls hl => ?_)
  refine lv_iconst (v := nI 0) hx hb dL_law_26 (by decide) ?_
  refine lv_istore (lv' := [(5, .int (nI 0)), (4, .int (nI 0)), (3, .int (nI 0)), (2, .int (nI (B_1.2 4))), (1, .ref ra_1), (0, .ref z)]) hx hb dL_law_27 hl (by decide) rfl (fun ls hl => ?_)
  have lp_29 : ∀ (n_29 : Nat) (ti : Nat) (B : BS) (m4 : Nat) (m5 : Nat) (m6 : Nat), 40 - ti < n_29 → (ti ≤ 40) → (B.2 0 = ra_1) → (LI B (ti + 4)) → (m4 = B.2 4) → (m5 = B.2 5) → (m6 = B.2 6) → ∀ (H : Heap) (locs : List Loc) (ls : Array Slot), va_P D vwCl (wB kA B) H → va_D A (wB kA B) → va_S A s.heap H locs → lv_has ls 16 [(5, .int (nI ti)), (4, .int (nI m6)), (3, .int (nI m5)), (2, .int (nI m4)), (1, .ref ra_1), (0, .ref z)] → W p l e room_1 s m args below meth c H locs (110 + ti) (14000 + 4 * ti) (lw_Z below args s) (F0 m 29 ls []) := by
    clear hP hD hS hl
    intro n_29
    induction n_29 with
    | zero =>
      intro ti B m4 m5 m6 hm_29 hti hbe hL hm4 hm5 hm6
      exact absurd hm_29 (by omega)
    | succ n_29 ih_29 =>
      intro ti B m4 m5 m6 hm_29 hti hbe hL hm4 hm5 hm6 H locs ls hP hD hS hl
      have hI := hL.1
      have hl42 := hL.2.2.1
      have hl52 := hL.2.2.2.1
      have hl62 := hL.2.2.2.2
      refine lv_iload hx hb dL_law_29 (lv_at hl 0 rfl) ?_
      refine lv_bipush (v := nI 40) hx hb dL_law_31 (by decide) ?_
      refine lv_icmp_ge (tgt := 1167) hx hb dL_law_33 (by decide) (fun c33 => ?_) (fun c33 => ?_)
      ·
        rw [qle (a := 40) (b := ti) (by omega) (by omega)] at c33
        refine W.widen (k := 150) (n := 14160) (show 110 + ti ≤ 150 by omega) (show 14000 + 4 * ti ≤ 14160 by omega) ?_
        exact cL_end l D kA z hfl hE0 hargs hA2 ra_1 ti B m4 m5 m6 hti hbe hL  _ _ _ hP hD hS hl
      ·
        rw [qle (a := 40) (b := ti) (by omega) (by omega)] at c33
        refine lv_aload_n hx hb dL_law_36 rfl (lv_at hl 5 rfl) ?_
        refine lv_bipush (v := nI 21) hx hb dL_law_37 (by decide) ?_
        refine lv_iload hx hb dL_law_39 (lv_at hl 0 rfl) ?_
        refine lv_bipush (v := nI 10) hx hb dL_law_41 (by decide) ?_
        refine lv_irem hx hb dL_law_43 (by decide) ?_
        rw [pk_rem (a := ti) (d := 10) (by omega) (by omega) (by omega)]
        refine lv_iadd hx hb dL_law_44 ?_
        rw [nI_add 21 (ti % 10)]
        have hF := chF0 hS hA
        refine va_calli (va_runS (As := [.ref z, .int (nI (21 + (ti % 10)))]) (rest := []) ⟨hx, hb, hml, hown, hts⟩ (c_L_cell l D kA z (21 + (ti % 10)) (by first | assumption | omega) _) (va_cwS 2 hts h_L_law_0 rfl rfl rfl (by decide +kernel) ⟨Nat.le_of_ble_eq_true rfl, Nat.le_of_ble_eq_true rfl⟩) (fPs0 hK hS hG hF) rfl rfl hl.1 rfl (lv_room (Nat.le_of_ble_eq_true rfl)) dL_law_45 ⟨(Nat.le_trans (Nat.add_le_add_right (show 110 + ti ≤ 600086 by omega) _) (Nat.le_of_ble_eq_true rfl)), (Nat.le_trans (Nat.add_le_add_right (show 14000 + 4 * ti ≤ 7301442 by omega) _) (Nat.le_of_ble_eq_true rfl))⟩) hS (fun q _ h => hF q h) hF (fun r_7 w1 t H locs ht hvm hw hB hz1 hk1 hS => ?_)
        obtain ⟨hP, hD⟩ := chJ0 hP hD hk1 hF ht hB
        try dsimp only at hw
        obtain ⟨v_2, rfl, e_7⟩ := hw
        rw [List.append_nil] at hP hD
        replace e_7 := e_7.symm
        subst e_7
        have hP : va_P D vwCl (wB kA B) H := hP
        have hD : va_D A (wB kA B) := hD
        refine lv_iload hx hb dL_law_48 (lv_at hl 0 rfl) ?_
        refine lv_bipush (v := nI 10) hx hb dL_law_50 (by decide) ?_
        refine lv_idiv hx hb dL_law_52 (by decide) ?_
        rw [pk_div (a := ti) (d := 10) (by omega) (by omega) (by omega)]
        refine lv_iconst (v := nI 5) hx hb dL_law_53 (by decide) ?_
        refine lv_imul hx hb dL_law_54 ?_
        rw [pk_mul (ti / 10) 5]
        have jn_56 : ∀ (x6 : Int32) (_ : True), ∀ (H : Heap) (locs : List Loc) (ls : Array Slot), va_P D vwCl (wB kA B) H → va_D A (wB kA B) → va_S A s.heap H locs → lv_has ls 16 [(5, .int (nI ti)), (4, .int (nI m6)), (3, .int (nI m5)), (2, .int (nI m4)), (1, .ref ra_1), (0, .ref z)] → W p l e room_1 s m args below meth c H locs (110 + ti) (14000 + 4 * ti) (lw_Z below args s) (F0 m 56 ls [.int x6]) := by
          clear hP hD hS hl
          intro x6 _  H locs ls hP hD hS hl
          refine lv_istore (lv' := [(6, .int x6), (5, .int (nI ti)), (4, .int (nI m6)), (3, .int (nI m5)), (2, .int (nI m4)), (1, .ref ra_1), (0, .ref z)]) hx hb dL_law_56 hl (by decide) rfl (fun ls hl => ?_)
          refine lv_iload hx hb dL_law_58 (lv_at hl 0 rfl) ?_
          refine lv_iconst (v := nI 4) hx hb dL_law_60 (by decide) ?_
          refine lv_ishr hx hb dL_law_61 ?_
          refine lv_iconst (v := nI 4) hx hb dL_law_62 (by decide) ?_
          have hF := chF0 hS hA
          refine va_calli (va_runS (As := [.int (x6 >>> ((nI 4) &&& 31)), .int (nI 4)]) (rest := []) ⟨hx, hb, hml, hown, hts⟩ (c_L_below l D kA z (x6 >>> ((nI 4) &&& 31)) 4 (by first | assumption | omega) (by first | assumption | omega) _) (va_cwS 2 hts h_L_law_1 rfl rfl rfl (by decide +kernel) ⟨Nat.le_of_ble_eq_true rfl, Nat.le_of_ble_eq_true rfl⟩) (fPs0 hK hS hG hF) rfl rfl hl.1 rfl (lv_room (Nat.le_of_ble_eq_true rfl)) dL_law_63 ⟨(Nat.le_trans (Nat.add_le_add_right (show 110 + ti ≤ 600086 by omega) _) (Nat.le_of_ble_eq_true rfl)), (Nat.le_trans (Nat.add_le_add_right (show 14000 + 4 * ti ≤ 7301442 by omega) _) (Nat.le_of_ble_eq_true rfl))⟩) hS (fun q _ h => hF q h) hF (fun r_8 w1 t H locs ht hvm hw hB hz1 hk1 hS => ?_)
          obtain ⟨hP, hD⟩ := chJ0 hP hD hk1 hF ht hB
          try dsimp only at hw
          obtain ⟨k_2, rfl, e_8, hkq_2⟩ := hw
          rw [List.append_nil] at hP hD
          replace e_8 := e_8.symm
          subst e_8
          have hP : va_P D vwCl (wB kA B) H := hP
          have hD : va_D A (wB kA B) := hD
          obtain ⟨k, hkk⟩ : ∃ k, k = k_2 := ⟨_, rfl⟩
          have hk : k < 4 := by omega
          refine W.eq (g2 := F0 m 66 ls [.int (nI k)]) (by rw [hkk]) ?_
          have iT := hI.1 k hk
          have hn4 := iT.2.2.2.1
          have hn1 := iT.2.1
          have hc2 := iT.1
          have h34 := hL.2.1 k hk
          have hsk := shS_le (B := B) hk
          have hB4 := shB_le hI
          have hsp0 := hI.2.2.1
          have hdw0 := hI.2.2.2
          refine lv_istore (lv' := [(7, .int (nI k)), (6, .int x6), (5, .int (nI ti)), (4, .int (nI m6)), (3, .int (nI m5)), (2, .int (nI m4)), (1, .ref ra_1), (0, .ref z)]) hx hb dL_law_66 hl (by decide) rfl (fun ls hl => ?_)
          refine lv_aload_n hx hb dL_law_68 rfl (lv_at hl 6 rfl) ?_
          refine lv_iload hx hb dL_law_69 (lv_at hl 0 rfl) ?_
          refine lv_iconst (v := nI 1) hx hb dL_law_71 (by decide) ?_
          have hF := chF [] hD hS hA
          refine va_calli (va_runV (As := [.int (nI k), .int (nI 1)]) (rest := []) ⟨hx, hb, hml, hown, hts⟩ (c_X6_ofTrack_B1 l D kA z B ra_1 k (by first | assumption | omega) (by first | assumption | omega) (by first | assumption | omega) _) (cwV 2 hts h_L_law_6 rfl rfl rfl (by decide +kernel) ⟨Nat.le_of_ble_eq_true rfl, Nat.le_of_ble_eq_true rfl⟩) (fPvB [] (hbe) hK hP hD hS hG hF) rfl rfl hl.1 rfl (lv_room (Nat.le_of_ble_eq_true rfl)) dL_law_72 ⟨(Nat.le_trans (Nat.add_le_add_right (show 110 + ti ≤ 600086 by omega) _) (Nat.le_of_ble_eq_true rfl)), (Nat.le_trans (Nat.add_le_add_right (show 14000 + 4 * ti ≤ 7301442 by omega) _) (Nat.le_of_ble_eq_true rfl))⟩) hS (fun q _ h => hF q h) hF (fun r_9 w1 t H locs ht hvm hw hB hz1 hk1 hS => ?_)
          obtain ⟨hP, hD⟩ := chJ [] hP hD hk1 hF ht hB
          try dsimp only at hw
          obtain ⟨rfl, e_9⟩ := hw
          replace e_9 := e_9.symm
          subst e_9
          have hP : va_P D vwCl (wB kA B) H := hP
          have hD : va_D A (wB kA B) := hD
          refine lv_istore (lv' := [(8, .int (nI (nn (B.1 k) 5))), (7, .int (nI k)), (6, .int x6), (5, .int (nI ti)), (4, .int (nI m6)), (3, .int (nI m5)), (2, .int (nI m4)), (1, .ref ra_1), (0, .ref z)]) hx hb dL_law_75 hl (by decide) rfl (fun ls hl => ?_)
          refine lv_aload_n hx hb dL_law_77 rfl (lv_at hl 7 rfl) ?_
          refine lv_iload hx hb dL_law_78 (lv_at hl 1 rfl) ?_
          refine lv_iconst (v := nI 0) hx hb dL_law_80 (by decide) ?_
          have hF := chF [] hD hS hA
          refine va_calli (va_runV (As := [.int (nI k), .int (nI 0)]) (rest := []) ⟨hx, hb, hml, hown, hts⟩ (c_X6_ofTrack_B0 l D kA z B ra_1 k (by first | assumption | omega) (by first | assumption | omega) (by first | assumption | omega) _) (cwV 2 hts h_L_law_7 rfl rfl rfl (by decide +kernel) ⟨Nat.le_of_ble_eq_true rfl, Nat.le_of_ble_eq_true rfl⟩) (fPvB [] (hbe) hK hP hD hS hG hF) rfl rfl hl.1 rfl (lv_room (Nat.le_of_ble_eq_true rfl)) dL_law_81 ⟨(Nat.le_trans (Nat.add_le_add_right (show 110 + ti ≤ 600086 by omega) _) (Nat.le_of_ble_eq_true rfl)), (Nat.le_trans (Nat.add_le_add_right (show 14000 + 4 * ti ≤ 7301442 by omega) _) (Nat.le_of_ble_eq_true rfl))⟩) hS (fun q _ h => hF q h) hF (fun r_10 w1 t H locs ht hvm hw hB hz1 hk1 hS => ?_)
          obtain ⟨hP, hD⟩ := chJ [] hP hD hk1 hF ht hB
          try dsimp only at hw
          obtain ⟨rfl, e_10⟩ := hw
          replace e_10 := e_10.symm
          subst e_10
          have hP : va_P D vwCl (wB kA B) H := hP
          have hD : va_D A (wB kA B) := hD
          refine lv_istore (lv' := [(9, .int (nI (nn (B.1 k) 0))), (8, .int (nI (nn (B.1 k) 5))), (7, .int (nI k)), (6, .int x6), (5, .int (nI ti)), (4, .int (nI m6)), (3, .int (nI m5)), (2, .int (nI m4)), (1, .ref ra_1), (0, .ref z)]) hx hb dL_law_84 hl (by decide) rfl (fun ls hl => ?_)
          refine lv_aload_n hx hb dL_law_86 rfl (lv_at hl 8 rfl) ?_
          refine lv_iconst (v := nI 2) hx hb dL_law_87 (by decide) ?_
          have hF := chF [] hD hS hA
          refine va_calli (va_runV (As := [.int (nI 2)]) (rest := []) ⟨hx, hb, hml, hown, hts⟩ (c_X6_many_B2 l D kA z B ra_1 (by first | assumption | omega) (by first | assumption | omega) _) (cwV 1 hts h_L_law_8 rfl rfl rfl (by decide +kernel) ⟨Nat.le_of_ble_eq_true rfl, Nat.le_of_ble_eq_true rfl⟩) (fPvB [] (hbe) hK hP hD hS hG hF) rfl rfl hl.1 rfl (lv_room (Nat.le_of_ble_eq_true rfl)) dL_law_88 ⟨(Nat.le_trans (Nat.add_le_add_right (show 110 + ti ≤ 600086 by omega) _) (Nat.le_of_ble_eq_true rfl)), (Nat.le_trans (Nat.add_le_add_right (show 14000 + 4 * ti ≤ 7301442 by omega) _) (Nat.le_of_ble_eq_true rfl))⟩) hS (fun q _ h => hF q h) hF (fun r_11 w1 t H locs ht hvm hw hB hz1 hk1 hS => ?_)
          obtain ⟨hP, hD⟩ := chJ [] hP hD hk1 hF ht hB
          try dsimp only at hw
          obtain ⟨rfl, e_11⟩ := hw
          replace e_11 := e_11.symm
          subst e_11
          have hP : va_P D vwCl (wB kA B) H := hP
          have hD : va_D A (wB kA B) := hD
          refine lv_istore (lv' := [(10, .int (nI (B.2 3))), (9, .int (nI (nn (B.1 k) 0))), (8, .int (nI (nn (B.1 k) 5))), (7, .int (nI k)), (6, .int x6), (5, .int (nI ti)), (4, .int (nI m6)), (3, .int (nI m5)), (2, .int (nI m4)), (1, .ref ra_1), (0, .ref z)]) hx hb dL_law_91 hl (by decide) rfl (fun ls hl => ?_)
          refine lv_aload_n hx hb dL_law_93 rfl (lv_at hl 9 rfl) ?_
          refine lv_iconst (v := nI 4) hx hb dL_law_94 (by decide) ?_
          have hF := chF [] hD hS hA
          refine va_calli (va_runV (As := [.int (nI 4)]) (rest := []) ⟨hx, hb, hml, hown, hts⟩ (c_X6_many_B4 l D kA z B ra_1 (by first | assumption | omega) (by first | assumption | omega) _) (cwV 1 hts h_L_law_9 rfl rfl rfl (by decide +kernel) ⟨Nat.le_of_ble_eq_true rfl, Nat.le_of_ble_eq_true rfl⟩) (fPvB [] (hbe) hK hP hD hS hG hF) rfl rfl hl.1 rfl (lv_room (Nat.le_of_ble_eq_true rfl)) dL_law_95 ⟨(Nat.le_trans (Nat.add_le_add_right (show 110 + ti ≤ 600086 by omega) _) (Nat.le_of_ble_eq_true rfl)), (Nat.le_trans (Nat.add_le_add_right (show 14000 + 4 * ti ≤ 7301442 by omega) _) (Nat.le_of_ble_eq_true rfl))⟩) hS (fun q _ h => hF q h) hF (fun r_12 w1 t H locs ht hvm hw hB hz1 hk1 hS => ?_)
          obtain ⟨hP, hD⟩ := chJ [] hP hD hk1 hF ht hB
          try dsimp only at hw
          obtain ⟨rfl, e_12⟩ := hw
          replace e_12 := e_12.symm
          subst e_12
          have hP : va_P D vwCl (wB kA B) H := hP
          have hD : va_D A (wB kA B) := hD
          refine lv_istore (lv' := [(11, .int (nI (shB B))), (10, .int (nI (B.2 3))), (9, .int (nI (nn (B.1 k) 0))), (8, .int (nI (nn (B.1 k) 5))), (7, .int (nI k)), (6, .int x6), (5, .int (nI ti)), (4, .int (nI m6)), (3, .int (nI m5)), (2, .int (nI m4)), (1, .ref ra_1), (0, .ref z)]) hx hb dL_law_98 hl (by decide) rfl (fun ls hl => ?_)
          refine lv_iconst (v := nI 4) hx hb dL_law_100 (by decide) ?_
          refine va_newa (atype := .int) (ty := .int) (N' := 4) (a0 := (4, .inl (fun _ => 0))) hx hb (wAt hts 19 (w := .arrayClass .int) rfl) rfl hK hP hD hS hA (fun _ => rfl) (nI_pos (n := 4) (by decide)) (nI_clamp (n := 4) (by decide)) (by decide) (Nat.le_trans (show 110 + ti + 1 ≤ 600086 by omega) (Nat.le_of_ble_eq_true rfl)) (Nat.le_trans (show 14000 + 4 * ti + 4 ≤ 7301442 by omega) (Nat.le_of_ble_eq_true rfl)) dL_law_101 (fun q_1 cA H hK hP hD hS => ?_)
          obtain rfl : cA = kA 0 := tyEq hK 3 0 rfl rfl
          have hK : va_K D vwCl (tyL kA) s := hK.sub [0, 1, 2] rfl
          have hP := chNewP [] _ hP
          have hD := chNewD [] _ hD
          have hP : va_P D vwCl ([(q_1, .inl (kA 0, 4, .inl (fun _ => 0)))] ++ wB kA B) H := hP
          have hD : va_D A ([(q_1, .inl (kA 0, 4, .inl (fun _ => 0)))] ++ wB kA B) := hD
          refine lv_dup hx hb dL_law_103 rfl ?_
          refine lv_iconst (v := nI 0) hx hb dL_law_104 (by decide) ?_
          refine lv_aload_n hx hb dL_law_105 rfl (lv_at hl 10 rfl) ?_
          refine lv_iconst (v := nI 0) hx hb dL_law_106 (by decide) ?_
          refine lv_iconst (v := nI 1) hx hb dL_law_107 (by decide) ?_
          have hF := chF [(q_1, .inl (kA 0, 4, .inl (fun _ => 0)))] hD hS hA
          refine va_calli (va_runV (As := [.int (nI 0), .int (nI 1)]) (rest := [.int (nI 0), .ref q_1, .ref q_1]) ⟨hx, hb, hml, hown, hts⟩ (c_X6_ofTrack_B1 l D kA z B ra_1 0 (by first | assumption | omega) (by first | assumption | omega) (by first | assumption | omega) _) (cwV 2 hts h_L_law_6 rfl rfl rfl (by decide +kernel) ⟨Nat.le_of_ble_eq_true rfl, Nat.le_of_ble_eq_true rfl⟩) (fPvB [(q_1, .inl (kA 0, 4, .inl (fun _ => 0)))] (hbe) hK hP hD hS hG hF) rfl rfl hl.1 rfl (lv_room (Nat.le_of_ble_eq_true rfl)) dL_law_108 ⟨(Nat.le_trans (Nat.add_le_add_right (show 110 + ti + 1 ≤ 600086 by omega) _) (Nat.le_of_ble_eq_true rfl)), (Nat.le_trans (Nat.add_le_add_right (show 14000 + 4 * ti + 4 ≤ 7301442 by omega) _) (Nat.le_of_ble_eq_true rfl))⟩) hS (fun q _ h => hF q h) hF (fun r_13 w1 t H locs ht hvm hw hB hz1 hk1 hS => ?_)
          obtain ⟨hP, hD⟩ := chJ [(q_1, .inl (kA 0, 4, .inl (fun _ => 0)))] hP hD hk1 hF ht hB
          try dsimp only at hw
          obtain ⟨rfl, e_13⟩ := hw
          replace e_13 := e_13.symm
          subst e_13
          have hP : va_P D vwCl ([(q_1, .inl (kA 0, 4, .inl (fun _ => 0)))] ++ wB kA B) H := hP
          have hD : va_D A ([(q_1, .inl (kA 0, 4, .inl (fun _ => 0)))] ++ wB kA B) := hD
          refine va_iast hx hb hK hP hD hS 0 0 rfl rfl (vp_in_nI (n := 0) (by omega) (by decide)) dL_law_111 (fun H locs hP hD hS => ?_)
          rw [nI_clamp (n := 0) (by omega)] at hP hD
          have hP : va_P D vwCl ([(q_1, .inl (kA 0, 4, .inl (upd (fun _ => 0) 0 (nI (nn (B.1 0) 5)))))] ++ wB kA B) H := hP
          have hD : va_D A ([(q_1, .inl (kA 0, 4, .inl (upd (fun _ => 0) 0 (nI (nn (B.1 0) 5)))))] ++ wB kA B) := hD
          refine lv_dup hx hb dL_law_112 rfl ?_
          refine lv_iconst (v := nI 1) hx hb dL_law_113 (by decide) ?_
          refine lv_aload_n hx hb dL_law_114 rfl (lv_at hl 10 rfl) ?_
          refine lv_iconst (v := nI 1) hx hb dL_law_115 (by decide) ?_
          refine lv_iconst (v := nI 1) hx hb dL_law_116 (by decide) ?_
          have hF := chF [(q_1, .inl (kA 0, 4, .inl (upd (fun _ => 0) 0 (nI (nn (B.1 0) 5)))))] hD hS hA
          refine va_calli (va_runV (As := [.int (nI 1), .int (nI 1)]) (rest := [.int (nI 1), .ref q_1, .ref q_1]) ⟨hx, hb, hml, hown, hts⟩ (c_X6_ofTrack_B1 l D kA z B ra_1 1 (by first | assumption | omega) (by first | assumption | omega) (by first | assumption | omega) _) (cwV 2 hts h_L_law_6 rfl rfl rfl (by decide +kernel) ⟨Nat.le_of_ble_eq_true rfl, Nat.le_of_ble_eq_true rfl⟩) (fPvB [(q_1, .inl (kA 0, 4, .inl (upd (fun _ => 0) 0 (nI (nn (B.1 0) 5)))))] (hbe) hK hP hD hS hG hF) rfl rfl hl.1 rfl (lv_room (Nat.le_of_ble_eq_true rfl)) dL_law_117 ⟨(Nat.le_trans (Nat.add_le_add_right (show 110 + ti + 1 ≤ 600086 by omega) _) (Nat.le_of_ble_eq_true rfl)), (Nat.le_trans (Nat.add_le_add_right (show 14000 + 4 * ti + 4 ≤ 7301442 by omega) _) (Nat.le_of_ble_eq_true rfl))⟩) hS (fun q _ h => hF q h) hF (fun r_14 w1 t H locs ht hvm hw hB hz1 hk1 hS => ?_)
          obtain ⟨hP, hD⟩ := chJ [(q_1, .inl (kA 0, 4, .inl (upd (fun _ => 0) 0 (nI (nn (B.1 0) 5)))))] hP hD hk1 hF ht hB
          try dsimp only at hw
          obtain ⟨rfl, e_14⟩ := hw
          replace e_14 := e_14.symm
          subst e_14
          have hP : va_P D vwCl ([(q_1, .inl (kA 0, 4, .inl (upd (fun _ => 0) 0 (nI (nn (B.1 0) 5)))))] ++ wB kA B) H := hP
          have hD : va_D A ([(q_1, .inl (kA 0, 4, .inl (upd (fun _ => 0) 0 (nI (nn (B.1 0) 5)))))] ++ wB kA B) := hD
          refine va_iast hx hb hK hP hD hS 0 0 rfl rfl (vp_in_nI (n := 1) (by omega) (by decide)) dL_law_120 (fun H locs hP hD hS => ?_)
          rw [nI_clamp (n := 1) (by omega)] at hP hD
          have hP : va_P D vwCl ([(q_1, .inl (kA 0, 4, .inl (upd (upd (fun _ => 0) 0 (nI (nn (B.1 0) 5))) 1 (nI (nn (B.1 1) 5)))))] ++ wB kA B) H := hP
          have hD : va_D A ([(q_1, .inl (kA 0, 4, .inl (upd (upd (fun _ => 0) 0 (nI (nn (B.1 0) 5))) 1 (nI (nn (B.1 1) 5)))))] ++ wB kA B) := hD
          refine lv_dup hx hb dL_law_121 rfl ?_
          refine lv_iconst (v := nI 2) hx hb dL_law_122 (by decide) ?_
          refine lv_aload_n hx hb dL_law_123 rfl (lv_at hl 10 rfl) ?_
          refine lv_iconst (v := nI 2) hx hb dL_law_124 (by decide) ?_
          refine lv_iconst (v := nI 1) hx hb dL_law_125 (by decide) ?_
          have hF := chF [(q_1, .inl (kA 0, 4, .inl (upd (upd (fun _ => 0) 0 (nI (nn (B.1 0) 5))) 1 (nI (nn (B.1 1) 5)))))] hD hS hA
          refine va_calli (va_runV (As := [.int (nI 2), .int (nI 1)]) (rest := [.int (nI 2), .ref q_1, .ref q_1]) ⟨hx, hb, hml, hown, hts⟩ (c_X6_ofTrack_B1 l D kA z B ra_1 2 (by first | assumption | omega) (by first | assumption | omega) (by first | assumption | omega) _) (cwV 2 hts h_L_law_6 rfl rfl rfl (by decide +kernel) ⟨Nat.le_of_ble_eq_true rfl, Nat.le_of_ble_eq_true rfl⟩) (fPvB [(q_1, .inl (kA 0, 4, .inl (upd (upd (fun _ => 0) 0 (nI (nn (B.1 0) 5))) 1 (nI (nn (B.1 1) 5)))))] (hbe) hK hP hD hS hG hF) rfl rfl hl.1 rfl (lv_room (Nat.le_of_ble_eq_true rfl)) dL_law_126 ⟨(Nat.le_trans (Nat.add_le_add_right (show 110 + ti + 1 ≤ 600086 by omega) _) (Nat.le_of_ble_eq_true rfl)), (Nat.le_trans (Nat.add_le_add_right (show 14000 + 4 * ti + 4 ≤ 7301442 by omega) _) (Nat.le_of_ble_eq_true rfl))⟩) hS (fun q _ h => hF q h) hF (fun r_15 w1 t H locs ht hvm hw hB hz1 hk1 hS => ?_)
          obtain ⟨hP, hD⟩ := chJ [(q_1, .inl (kA 0, 4, .inl (upd (upd (fun _ => 0) 0 (nI (nn (B.1 0) 5))) 1 (nI (nn (B.1 1) 5)))))] hP hD hk1 hF ht hB
          try dsimp only at hw
          obtain ⟨rfl, e_15⟩ := hw
          replace e_15 := e_15.symm
          subst e_15
          have hP : va_P D vwCl ([(q_1, .inl (kA 0, 4, .inl (upd (upd (fun _ => 0) 0 (nI (nn (B.1 0) 5))) 1 (nI (nn (B.1 1) 5)))))] ++ wB kA B) H := hP
          have hD : va_D A ([(q_1, .inl (kA 0, 4, .inl (upd (upd (fun _ => 0) 0 (nI (nn (B.1 0) 5))) 1 (nI (nn (B.1 1) 5)))))] ++ wB kA B) := hD
          refine va_iast hx hb hK hP hD hS 0 0 rfl rfl (vp_in_nI (n := 2) (by omega) (by decide)) dL_law_129 (fun H locs hP hD hS => ?_)
          rw [nI_clamp (n := 2) (by omega)] at hP hD
          have hP : va_P D vwCl ([(q_1, .inl (kA 0, 4, .inl (upd (upd (upd (fun _ => 0) 0 (nI (nn (B.1 0) 5))) 1 (nI (nn (B.1 1) 5))) 2 (nI (nn (B.1 2) 5)))))] ++ wB kA B) H := hP
          have hD : va_D A ([(q_1, .inl (kA 0, 4, .inl (upd (upd (upd (fun _ => 0) 0 (nI (nn (B.1 0) 5))) 1 (nI (nn (B.1 1) 5))) 2 (nI (nn (B.1 2) 5)))))] ++ wB kA B) := hD
          refine lv_dup hx hb dL_law_130 rfl ?_
          refine lv_iconst (v := nI 3) hx hb dL_law_131 (by decide) ?_
          refine lv_aload_n hx hb dL_law_132 rfl (lv_at hl 10 rfl) ?_
          refine lv_iconst (v := nI 3) hx hb dL_law_133 (by decide) ?_
          refine lv_iconst (v := nI 1) hx hb dL_law_134 (by decide) ?_
          have hF := chF [(q_1, .inl (kA 0, 4, .inl (upd (upd (upd (fun _ => 0) 0 (nI (nn (B.1 0) 5))) 1 (nI (nn (B.1 1) 5))) 2 (nI (nn (B.1 2) 5)))))] hD hS hA
          refine va_calli (va_runV (As := [.int (nI 3), .int (nI 1)]) (rest := [.int (nI 3), .ref q_1, .ref q_1]) ⟨hx, hb, hml, hown, hts⟩ (c_X6_ofTrack_B1 l D kA z B ra_1 3 (by first | assumption | omega) (by first | assumption | omega) (by first | assumption | omega) _) (cwV 2 hts h_L_law_6 rfl rfl rfl (by decide +kernel) ⟨Nat.le_of_ble_eq_true rfl, Nat.le_of_ble_eq_true rfl⟩) (fPvB [(q_1, .inl (kA 0, 4, .inl (upd (upd (upd (fun _ => 0) 0 (nI (nn (B.1 0) 5))) 1 (nI (nn (B.1 1) 5))) 2 (nI (nn (B.1 2) 5)))))] (hbe) hK hP hD hS hG hF) rfl rfl hl.1 rfl (lv_room (Nat.le_of_ble_eq_true rfl)) dL_law_135 ⟨(Nat.le_trans (Nat.add_le_add_right (show 110 + ti + 1 ≤ 600086 by omega) _) (Nat.le_of_ble_eq_true rfl)), (Nat.le_trans (Nat.add_le_add_right (show 14000 + 4 * ti + 4 ≤ 7301442 by omega) _) (Nat.le_of_ble_eq_true rfl))⟩) hS (fun q _ h => hF q h) hF (fun r_16 w1 t H locs ht hvm hw hB hz1 hk1 hS => ?_)
          obtain ⟨hP, hD⟩ := chJ [(q_1, .inl (kA 0, 4, .inl (upd (upd (upd (fun _ => 0) 0 (nI (nn (B.1 0) 5))) 1 (nI (nn (B.1 1) 5))) 2 (nI (nn (B.1 2) 5)))))] hP hD hk1 hF ht hB
          try dsimp only at hw
          obtain ⟨rfl, e_16⟩ := hw
          replace e_16 := e_16.symm
          subst e_16
          have hP : va_P D vwCl ([(q_1, .inl (kA 0, 4, .inl (upd (upd (upd (fun _ => 0) 0 (nI (nn (B.1 0) 5))) 1 (nI (nn (B.1 1) 5))) 2 (nI (nn (B.1 2) 5)))))] ++ wB kA B) H := hP
          have hD : va_D A ([(q_1, .inl (kA 0, 4, .inl (upd (upd (upd (fun _ => 0) 0 (nI (nn (B.1 0) 5))) 1 (nI (nn (B.1 1) 5))) 2 (nI (nn (B.1 2) 5)))))] ++ wB kA B) := hD
          have jn_139 : ∀ (fro : Nat → Int32) (_ : True), (∀ q, q < 4 → fro q = nI (nn (B.1 q) 5)) → ∀ (H : Heap) (locs : List Loc) (ls : Array Slot), va_P D vwCl ([(q_1, .inl (kA 0, 4, .inl fro))] ++ wB kA B) H → va_D A ([(q_1, .inl (kA 0, 4, .inl fro))] ++ wB kA B) → va_S A s.heap H locs → lv_has ls 16 [(11, .int (nI (shB B))), (10, .int (nI (B.2 3))), (9, .int (nI (nn (B.1 k) 0))), (8, .int (nI (nn (B.1 k) 5))), (7, .int (nI k)), (6, .int x6), (5, .int (nI ti)), (4, .int (nI m6)), (3, .int (nI m5)), (2, .int (nI m4)), (1, .ref ra_1), (0, .ref z)] → W p l e room_1 s m args below meth c H locs (110 + ti + 1) (14000 + 4 * ti + 4) (lw_Z below args s) (F0 m 139 ls [.ref q_1]) := by
            clear hP hD hS hl
            intro fro _ hfro H locs ls hP hD hS hl
            refine lv_astore (lv' := [(12, .ref q_1), (11, .int (nI (shB B))), (10, .int (nI (B.2 3))), (9, .int (nI (nn (B.1 k) 0))), (8, .int (nI (nn (B.1 k) 5))), (7, .int (nI k)), (6, .int x6), (5, .int (nI ti)), (4, .int (nI m6)), (3, .int (nI m5)), (2, .int (nI m4)), (1, .ref ra_1), (0, .ref z)]) hx hb dL_law_139 hl (by decide) rfl (fun ls hl => ?_)
            refine lv_iload hx hb dL_law_141 (lv_at hl 6 rfl) ?_
            refine lv_bipush (v := nI 11) hx hb dL_law_143 (by decide) ?_
            have hF := chF0 hS hA
            refine va_calli (va_runS (As := [.int x6, .int (nI 11)]) (rest := []) ⟨hx, hb, hml, hown, hts⟩ (c_L_below l D kA z x6 11 (by first | assumption | omega) (by first | assumption | omega) _) (va_cwS 2 hts h_L_law_1 rfl rfl rfl (by decide +kernel) ⟨Nat.le_of_ble_eq_true rfl, Nat.le_of_ble_eq_true rfl⟩) (fPs0 hK hS hG hF) rfl rfl hl.1 rfl (lv_room (Nat.le_of_ble_eq_true rfl)) dL_law_145 ⟨(Nat.le_trans (Nat.add_le_add_right (show 110 + ti + 1 ≤ 600086 by omega) _) (Nat.le_of_ble_eq_true rfl)), (Nat.le_trans (Nat.add_le_add_right (show 14000 + 4 * ti + 4 ≤ 7301442 by omega) _) (Nat.le_of_ble_eq_true rfl))⟩) hS (fun q _ h => hF q h) hF (fun r_17 w1 t H locs ht hvm hw hB hz1 hk1 hS => ?_)
            obtain ⟨hP, hD⟩ := chJ0 hP hD hk1 hF ht hB
            try dsimp only at hw
            obtain ⟨k_3, rfl, e_17, hkq_3⟩ := hw
            rw [List.append_nil] at hP hD
            replace e_17 := e_17.symm
            subst e_17
            have hP : va_P D vwCl ([(q_1, .inl (kA 0, 4, .inl fro))] ++ wB kA B) H := hP
            have hD : va_D A ([(q_1, .inl (kA 0, 4, .inl fro))] ++ wB kA B) := hD
            have hti4 : ti < 40 := by omega
            have jn_1067 : ∀ (B9 : BS) (fr9 : Nat → Int32) (d9 : Nat) (m49 : Nat) (m59 : Nat) (m69 : Nat) (_ : True), (B9.2 0 = ra_1) → (LI B9 (ti + 5)) → (∀ q, q < 4 → fr9 q = nI (nn (B9.1 q) 5)) → (d9 = B9.2 3) → (m49 = B9.2 4) → (m59 = B9.2 5) → (m69 = B9.2 6) → ∀ (H : Heap) (locs : List Loc) (ls : Array Slot), va_P D vwCl ([(q_1, .inl (kA 0, 4, .inl fr9))] ++ wB kA B9) H → va_D A ([(q_1, .inl (kA 0, 4, .inl fr9))] ++ wB kA B9) → va_S A s.heap H locs → lv_has ls 16 [(10, .int (nI d9)), (4, .int (nI m69)), (3, .int (nI m59)), (2, .int (nI m49)), (12, .ref q_1), (5, .int (nI ti)), (1, .ref ra_1), (0, .ref z)] → W p l e room_1 s m args below meth c H locs (110 + ti + 1) (14000 + 4 * ti + 4) (lw_Z below args s) (F0 m 1067 ls []) := by
              clear hP hD hS hl
              intro B9 fr9 d9 m49 m59 m69 _ hbe9 hL9 hfr9 hd9 hm49 hm59 hm69 H locs ls hP hD hS hl
              exact cL_meet l D kA z hfl hE0 hargs hA2 n_29 ti ra_1 q_1 B9 fr9 d9 m49 m59 m69 hti4 hm_29 hbe9 hL9 hfr9 hd9 hm49 hm59 hm69 ih_29 _ _ _ hP hD hS hl
            rcases (show k_3 = 0 ∨ k_3 = 1 ∨ k_3 = 2 ∨ k_3 = 3 ∨ k_3 = 4 ∨ k_3 = 5 ∨ k_3 = 6 ∨ k_3 = 7 ∨ k_3 = 8 ∨ k_3 = 9 ∨ k_3 = 10 by omega) with rfl | rfl | rfl | rfl | rfl | rfl | rfl | rfl | rfl | rfl | rfl
            ·
              refine lv_tableIn (off := 52) (tgt := 200) hx hb dL_law_148 (by decide) (by decide) (by decide) (by decide) ?_
              exact cL_0 l D kA z hfl hE0 hargs hA2 ti ra_1 q_1 B m4 m5 m6 k x6 fro hti4 hbe hL hm4 hm5 hm6 hk hfro jn_1067 _ _ _ hP hD hS hl
            ·
              refine lv_tableIn (off := 85) (tgt := 233) hx hb dL_law_148 (by decide) (by decide) (by decide) (by decide) ?_
              exact cL_1 l D kA z hfl hE0 hargs hA2 ti ra_1 q_1 B m4 m5 m6 k x6 fro hti4 hbe hL hm4 hm5 hm6 hk hfro jn_1067 _ _ _ hP hD hS hl
            ·
              refine lv_tableIn (off := 85) (tgt := 233) hx hb dL_law_148 (by decide) (by decide) (by decide) (by decide) ?_
              exact cL_1 l D kA z hfl hE0 hargs hA2 ti ra_1 q_1 B m4 m5 m6 k x6 fro hti4 hbe hL hm4 hm5 hm6 hk hfro jn_1067 _ _ _ hP hD hS hl
            ·
              refine lv_tableIn (off := 199) (tgt := 347) hx hb dL_law_148 (by decide) (by decide) (by decide) (by decide) ?_
              exact cL_3 l D kA z hfl hE0 hargs hA2 ti ra_1 q_1 B m4 m5 m6 k x6 fro hti4 hbe hL hm4 hm5 hm6 hk hfro jn_1067 _ _ _ hP hD hS hl
            ·
              refine lv_tableIn (off := 279) (tgt := 427) hx hb dL_law_148 (by decide) (by decide) (by decide) (by decide) ?_
              exact cL_4 l D kA z hfl hE0 hargs hA2 ti ra_1 q_1 B m4 m5 m6 k x6 fro hti4 hbe hL hm4 hm5 hm6 hk hfro jn_1067 _ _ _ hP hD hS hl
            ·
              refine lv_tableIn (off := 394) (tgt := 542) hx hb dL_law_148 (by decide) (by decide) (by decide) (by decide) ?_
              exact cL_5 l D kA z hfl hE0 hargs hA2 ti ra_1 q_1 B m4 m5 m6 k x6 fro hti4 hbe hL hm4 hm5 hm6 hk hfro jn_1067 _ _ _ hP hD hS hl
            ·
              refine lv_tableIn (off := 491) (tgt := 639) hx hb dL_law_148 (by decide) (by decide) (by decide) (by decide) ?_
              exact cL_6 l D kA z hfl hE0 hargs hA2 ti ra_1 q_1 B m4 m5 m6 k x6 fro hti4 hbe hL hm4 hm5 hm6 hk hfro jn_1067 _ _ _ hP hD hS hl
            ·
              refine lv_tableIn (off := 569) (tgt := 717) hx hb dL_law_148 (by decide) (by decide) (by decide) (by decide) ?_
              exact cL_7 l D kA z hfl hE0 hargs hA2 ti ra_1 q_1 B m4 m5 m6 k x6 fro hti4 hbe hL hm4 hm5 hm6 hk hfro jn_1067 _ _ _ hP hD hS hl
            ·
              refine lv_tableIn (off := 634) (tgt := 782) hx hb dL_law_148 (by decide) (by decide) (by decide) (by decide) ?_
              exact cL_8 l D kA z hfl hE0 hargs hA2 ti ra_1 q_1 B m4 m5 m6 k x6 fro hti4 hbe hL hm4 hm5 hm6 hk hfro jn_1067 _ _ _ hP hD hS hl
            ·
              refine lv_tableOut (tgt := 956) hx hb dL_law_148 (by decide) (by decide) ?_
              exact cL_9 l D kA z hfl hE0 hargs hA2 ti ra_1 q_1 B m4 m5 m6 k x6 fro hti4 hbe hL hm4 hm5 hm6 hk hfro jn_1067 _ _ _ hP hD hS hl
            ·
              refine lv_tableOut (tgt := 956) hx hb dL_law_148 (by decide) (by decide) ?_
              exact cL_9 l D kA z hfl hE0 hargs hA2 ti ra_1 q_1 B m4 m5 m6 k x6 fro hti4 hbe hL hm4 hm5 hm6 hk hfro jn_1067 _ _ _ hP hD hS hl
          refine va_iast hx hb hK hP hD hS 0 0 rfl rfl (vp_in_nI (n := 3) (by omega) (by decide)) dL_law_138 (fun H locs hP hD hS => ?_)
          rw [nI_clamp (n := 3) (by omega)] at hP hD
          have hP : va_P D vwCl ([(q_1, .inl (kA 0, 4, .inl (upd (upd (upd (upd (fun _ => 0) 0 (nI (nn (B.1 0) 5))) 1 (nI (nn (B.1 1) 5))) 2 (nI (nn (B.1 2) 5))) 3 (nI (nn (B.1 3) 5)))))] ++ wB kA B) H := hP
          have hD : va_D A ([(q_1, .inl (kA 0, 4, .inl (upd (upd (upd (upd (fun _ => 0) 0 (nI (nn (B.1 0) 5))) 1 (nI (nn (B.1 1) 5))) 2 (nI (nn (B.1 2) 5))) 3 (nI (nn (B.1 3) 5)))))] ++ wB kA B) := hD
          exact jn_139 (upd (upd (upd (upd (fun _ => 0) 0 (nI (nn (B.1 0) 5))) 1 (nI (nn (B.1 1) 5))) 2 (nI (nn (B.1 2) 5))) 3 (nI (nn (B.1 3) 5))) trivial (fun q hq => by rcases (show q = 0 ∨ q = 1 ∨ q = 2 ∨ q = 3 by omega) with rfl | rfl | rfl | rfl <;> rfl) _ _ _ hP hD hS (lv_sub hl [0, 1, 2, 3, 4, 5, 6, 7, 8, 9, 10, 11] rfl)
        refine lv_ishr hx hb dL_law_55 ?_
        exact jn_56 (v_2 >>> ((nI ((ti / 10) * 5)) &&& 31)) trivial  _ _ _ hP hD hS (lv_sub hl [0, 1, 2, 3, 4, 5] rfl)
  refine W.widen (k := 110 + 0) (n := 14000 + 4 * 0) (show 0 + 110 ≤ 110 + 0 by omega) (show 0 + 14000 ≤ 14000 + 4 * 0 by omega) ?_
  exact lp_29 41 0 B_1 (B_1.2 4) 0 0 (by omega) (by first | assumption | omega | rfl) hbe_1 hL_1 rfl hM_1.symm hM_2.symm _ _ _ hP hD hS (lv_sub hl [0, 1, 2, 3, 4, 5] rfl)
