noncomputable def foldT (B : BS) : Nat → Int64 → Int64
  | 0, d => d
  | k + 1, d => dgT (B.1 k) (foldT B k d)
noncomputable def dgB (B : BS) : Int64 := foldT B 4 (foldD (fun q => mN 4 (B.2 2) (B.2 3) (B.2 4) (shB B) (B.2 5) (B.2 6) q) 7 9601)
def wq_X6_digest_B : List Cond := .code yX6_digest cX6_digest 4 (some .long) :: (([.constantLong RX6 245 (9601), .fieldLink RX6 15 "FluxBench" "trackCount" "I", .methodLink RX6 252 yX6_digestOfTrack, .instanceMethod yX6_digestOfTrack, .selects RX6 yX6_digestOfTrack yX6_digestOfTrack, .initialized RX6, .constantLong RX6 247 (31), .methodLink RX6 249 yX6_many, .instanceMethod yX6_many, .selects RX6 yX6_many yX6_many] : List Cond) ++ (u_ws RX6 TX6 7 ++ (wq_X6_digestOfTrack_B ++ (wq_X6_many_B ++ ([] : List Cond)))))
theorem gd_X6_digest_B : wq_X6_digest_B.all goodWord = true := by decide +kernel
theorem n_X6_digest_B_X6 : ∀ w ∈ u_ws RX6 TX6 7, w ∈ wq_X6_digest_B := fun w h => List.mem_cons_of_mem _ (List.mem_append_right _ (List.mem_append_left _ h))
theorem h_X6_digest_B_0 : GoodIn wq_X6_digest_B (wsV RX6 252 RX6 yX6_digestOfTrack wq_X6_digestOfTrack_B) := goodIn_app (goodIn_r _ [3, 4, 5, 6] (by decide +kernel) (by decide +kernel)) (goodIn_sub (fun w h => List.mem_cons_of_mem _ (List.mem_append_right _ (List.mem_append_right _ (List.mem_append_left _ h)))) gd_X6_digestOfTrack_B)
theorem h_X6_digest_B_1 : GoodIn wq_X6_digest_B (wsV RX6 249 RX6 yX6_many wq_X6_many_B) := goodIn_app (goodIn_r _ [8, 9, 10, 6] (by decide +kernel) (by decide +kernel)) (goodIn_sub (fun w h => List.mem_cons_of_mem _ (List.mem_append_right _ (List.mem_append_right _ (List.mem_append_right _ (List.mem_append_left _ h))))) gd_X6_many_B)
set_option maxHeartbeats 4000000 in
set_option maxRecDepth 100000 in
theorem c_X6_digest_B (l : Launch) (D : va_G) (kA : Nat → ClassId) (z : Nat) (B : BS) (be : Nat) (hbe : B.2 0 = be) (hI : BI B) : mL l D (tyL kA) z yX6_digest wq_X6_digest_B ({ frames := 6, cells := 0, slots := 0, locals := 131 }) [.ref be] (wB kA B) (fun r w => w = (wB kA B) ∧ (r = dgB B)) := by
  refine ofL (cc := cX6_digest) (maxL := 4) RX6 rfl (by decide +kernel) rfl (Nat.le_of_ble_eq_true rfl) ?_
  intro p e s m args below meth c A ls hE
  obtain ⟨hx, hb, hr, hml, hts, hown, hlocks, hA, hS, hP, hK, hD, hG, hl⟩ := hE
  have hl : lv_has ls 4 [(0, .ref be)] := hl
  have hH : s.heap = s.heap := rfl
  refine lv_ldc2 hx hb hown (wAt hts 1 (w := .constantLong RX6 245 (9601)) rfl) dX6_digest_0 ?_
  refine lv_lstore_n (lv' := [(1, .long (9601)), (0, .ref be)]) hx hb dX6_digest_3 rfl hl (by decide) rfl (fun ls hl => ?_)
  refine lv_iconst (v := nI 0) hx hb dX6_digest_4 (by decide) ?_
  refine lv_istore_n (lv' := [(3, .int (nI 0)), (1, .long (9601)), (0, .ref be)]) hx hb dX6_digest_5 rfl hl (by decide) rfl (fun ls hl => ?_)
  have lp_6 : ∀ (n_6 : Nat) (wh : Nat) (d9 : Int64), 7 - wh < n_6 → (wh ≤ 7) → (d9 = foldD (fun q => mN 4 (B.2 2) (B.2 3) (B.2 4) (shB B) (B.2 5) (B.2 6) q) wh 9601) → ∀ (H : Heap) (locs : List Loc) (ls : Array Slot), va_P D vwCl (wB kA B) H → va_D A (wB kA B) → va_S A s.heap H locs → lv_has ls 4 [(3, .int (nI wh)), (1, .long d9), (0, .ref be)] → W p l e ({ frames := 6, cells := 0, slots := 0, locals := 131 }) s m args below meth c H locs 0 0 (MQ below (va_Ql (fun r w => w = (wB kA B) ∧ (r = dgB B)) (fB D (tyL kA) A) A) args s 0 0 A) (F0 m 6 ls []) := by
    clear hP hD hS hl
    intro n_6
    induction n_6 with
    | zero =>
      intro wh d9 hm_6 hw7 hd9
      exact absurd hm_6 (by omega)
    | succ n_6 ih_6 =>
      intro wh d9 hm_6 hw7 hd9 H locs ls hP hD hS hl
      refine lv_iload_n hx hb dX6_digest_6 rfl (lv_at hl 0 rfl) ?_
      refine lv_bipush (v := nI 6) hx hb dX6_digest_7 (by decide) ?_
      refine lv_icmp_gt (tgt := 31) hx hb dX6_digest_9 (by decide) (fun c9 => ?_) (fun c9 => ?_)
      ·
        rw [qlt (a := 6) (b := wh) (by omega) (by omega)] at c9
        rw [show wh = 7 from by omega] at hd9
        refine lv_iconst (v := nI 0) hx hb dX6_digest_31 (by decide) ?_
        refine lv_istore_n (lv' := [(3, .int (nI 0)), (1, .long d9), (0, .ref be)]) hx hb dX6_digest_32 rfl hl (by decide) rfl (fun ls hl => ?_)
        have lp_33 : ∀ (n_33 : Nat) (i : Nat) (d2 : Int64), 4 - i < n_33 → (i ≤ 4) → (d2 = foldT B i (foldD (fun q => mN 4 (B.2 2) (B.2 3) (B.2 4) (shB B) (B.2 5) (B.2 6) q) 7 9601)) → ∀ (H : Heap) (locs : List Loc) (ls : Array Slot), va_P D vwCl (wB kA B) H → va_D A (wB kA B) → va_S A s.heap H locs → lv_has ls 4 [(3, .int (nI i)), (1, .long d2), (0, .ref be)] → W p l e ({ frames := 6, cells := 0, slots := 0, locals := 131 }) s m args below meth c H locs 0 0 (MQ below (va_Ql (fun r w => w = (wB kA B) ∧ (r = dgB B)) (fB D (tyL kA) A) A) args s 0 0 A) (F0 m 33 ls []) := by
          clear hP hD hS hl
          intro n_33
          induction n_33 with
          | zero =>
            intro i d2 hm_33 hi4 hd2
            exact absurd hm_33 (by omega)
          | succ n_33 ih_33 =>
            intro i d2 hm_33 hi4 hd2 H locs ls hP hD hS hl
            refine lv_iload_n hx hb dX6_digest_33 rfl (lv_at hl 0 rfl) ?_
            refine lv_aload_n hx hb dX6_digest_34 rfl (lv_at hl 2 rfl) ?_
            have hq0 : (wB kA B)[0]? = some (be, .inr (5, [.ref (B.2 1), .int (nI 4), .int (nI (B.2 2)), .int (nI (B.2 3)), .int (nI (B.2 4)), .int (nI (B.2 5)), .int (nI (B.2 6))])) := by rw [← hbe]; rfl
            refine va_get (D := D) (ci := 5) (v := .int (nI 4)) (C := RX6) (T := TX6) (N := 7) hx hb hts n_X6_digest_B_X6 hown hK hP 0 hq0 rfl 1 (by decide) (wAt hts 2 (w := .fieldLink RX6 15 "FluxBench" "trackCount" "I") rfl) (fun _ h9 => h9) rfl dX6_digest_35 ?_
            refine lv_icmp_ge (tgt := 54) hx hb dX6_digest_38 (by decide) (fun c38 => ?_) (fun c38 => ?_)
            ·
              rw [qle (a := 4) (b := i) (by omega) (by omega)] at c38
              refine lv_lload_n hx hb dX6_digest_54 rfl (lv_at hl 1 rfl) ?_
              exact endL hx hb hr hlocks hK hP hD hS (⟨rfl, by rw [hd2, show i = 4 from by omega]; rfl⟩) (Nat.le_of_ble_eq_true rfl) (Nat.le_of_ble_eq_true rfl) dX6_digest_55
            ·
              rw [qle (a := 4) (b := i) (by omega) (by omega)] at c38
              refine lv_aload_n hx hb dX6_digest_41 rfl (lv_at hl 2 rfl) ?_
              refine lv_iload_n hx hb dX6_digest_42 rfl (lv_at hl 0 rfl) ?_
              refine lv_lload_n hx hb dX6_digest_43 rfl (lv_at hl 1 rfl) ?_
              have hF := chF [] hD hS hA
              refine va_calll (va_runV (As := [.int (nI i), .long d2]) (rest := []) ⟨hx, hb, hml, hown, hts⟩ (c_X6_digestOfTrack_B l D kA z B be i d2 (by first | assumption | omega) (by first | assumption | omega) (by first | assumption | omega) _) (cwV 2 hts h_X6_digest_B_0 rfl rfl rfl (by decide +kernel) ⟨Nat.le_of_ble_eq_true rfl, Nat.le_of_ble_eq_true rfl⟩) (fPvB [] (hbe) hK hP hD hS hG hF) rfl rfl hl.1 rfl (lv_room (Nat.le_of_ble_eq_true rfl)) dX6_digest_44 ⟨Nat.le_of_ble_eq_true rfl, Nat.le_of_ble_eq_true rfl⟩) hS (fun q _ h => hF q h) hF (fun r_1 w1 t H locs ht hvm hw hB hz1 hk1 hS => ?_)
              obtain ⟨hP, hD⟩ := chJ [] hP hD hk1 hF ht hB
              try dsimp only at hw
              obtain ⟨rfl, e_1⟩ := hw
              have hP : va_P D vwCl (wB kA B) H := hP
              have hD : va_D A (wB kA B) := hD
              refine lv_lstore_n (lv' := [(1, .long r_1), (3, .int (nI i)), (0, .ref be)]) hx hb dX6_digest_47 rfl hl (by decide) rfl (fun ls hl => ?_)
              refine lv_iinc (v := nI (i + 1)) (lv' := [(3, .int (nI (i + 1))), (1, .long r_1), (0, .ref be)]) hx hb dX6_digest_48 hl (k := 1) rfl (nI_add i 1) (by decide) rfl (fun ls hl => ?_)
              refine lv_goto (tgt := 33) hx hb dX6_digest_51 (by decide) ?_
              exact ih_33 (i + 1) r_1 (by omega) (by first | assumption | omega | rfl) (by rw [e_1, hd2]; rfl) _ _ _ hP hD hS (lv_sub hl [0, 1, 2] rfl)
        exact lp_33 5 0 d9 (by omega) (by first | assumption | omega | rfl) hd9 _ _ _ hP hD hS (lv_sub hl [0, 1, 2] rfl)
      ·
        rw [qlt (a := 6) (b := wh) (by omega) (by omega)] at c9
        refine lv_lload_n hx hb dX6_digest_12 rfl (lv_at hl 1 rfl) ?_
        refine lv_ldc2 hx hb hown (wAt hts 7 (w := .constantLong RX6 247 (31)) rfl) dX6_digest_13 ?_
        refine lv_lmul hx hb dX6_digest_16 ?_
        refine lv_aload_n hx hb dX6_digest_17 rfl (lv_at hl 2 rfl) ?_
        refine lv_iload_n hx hb dX6_digest_18 rfl (lv_at hl 0 rfl) ?_
        have hF := chF [] hD hS hA
        refine va_calli (va_runV (As := [.int (nI wh)]) (rest := [.long (d9 * (31))]) ⟨hx, hb, hml, hown, hts⟩ (c_X6_many_B l D kA z B be wh (by first | assumption | omega) (by first | assumption | omega) (by first | assumption | omega) _) (cwV 1 hts h_X6_digest_B_1 rfl rfl rfl (by decide +kernel) ⟨Nat.le_of_ble_eq_true rfl, Nat.le_of_ble_eq_true rfl⟩) (fPvB [] (hbe) hK hP hD hS hG hF) rfl rfl hl.1 rfl (lv_room (Nat.le_of_ble_eq_true rfl)) dX6_digest_19 ⟨Nat.le_of_ble_eq_true rfl, Nat.le_of_ble_eq_true rfl⟩) hS (fun q _ h => hF q h) hF (fun r_2 w1 t H locs ht hvm hw hB hz1 hk1 hS => ?_)
        obtain ⟨hP, hD⟩ := chJ [] hP hD hk1 hF ht hB
        try dsimp only at hw
        obtain ⟨rfl, e_2⟩ := hw
        have hP : va_P D vwCl (wB kA B) H := hP
        have hD : va_D A (wB kA B) := hD
        refine lv_i2l (v := r_2.toInt64) hx hb dX6_digest_22 rfl ?_
        refine lv_ladd hx hb dX6_digest_23 ?_
        refine lv_lstore_n (lv' := [(1, .long ((d9 * (31)) + r_2.toInt64)), (3, .int (nI wh)), (0, .ref be)]) hx hb dX6_digest_24 rfl hl (by decide) rfl (fun ls hl => ?_)
        refine lv_iinc (v := nI (wh + 1)) (lv' := [(3, .int (nI (wh + 1))), (1, .long ((d9 * (31)) + r_2.toInt64)), (0, .ref be)]) hx hb dX6_digest_25 hl (k := 1) rfl (nI_add wh 1) (by decide) rfl (fun ls hl => ?_)
        refine lv_goto (tgt := 6) hx hb dX6_digest_28 (by decide) ?_
        exact ih_6 (wh + 1) ((d9 * (31)) + r_2.toInt64) (by omega) (by first | assumption | omega | rfl) (by rw [hd9, e_2]; rfl) _ _ _ hP hD hS (lv_sub hl [0, 1, 2] rfl)
  exact lp_6 8 0 (9601) (by omega) (by first | assumption | omega | rfl) rfl _ _ _ hP hD hS (lv_sub hl [0, 1, 2] rfl)
