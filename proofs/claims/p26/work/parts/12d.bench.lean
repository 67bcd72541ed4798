def wq_L_bench : List Cond := .code yL_bench cL_bench 5 (some (.object "FluxBench")) :: (([.classLink RL 9 RX6, .instantiable RX6 7, .initialized RX6, .methodLink RL 11 yX6_init, .instanceMethod yX6_init, .methodLink RL 12 yX6_track, .instanceMethod yX6_track, .selects RX6 yX6_track yX6_track, .methodLink RL 16 yL_cell, .static yL_cell, .initialized RL, .methodLink RL 22 yL_below, .static yL_below, .methodLink RL 33 yX6_ofTrack, .instanceMethod yX6_ofTrack, .selects RX6 yX6_ofTrack yX6_ofTrack, .methodLink RL 47 yX6_read, .instanceMethod yX6_read, .selects RX6 yX6_read yX6_read, .methodLink RL 50 yX6_clean, .instanceMethod yX6_clean, .selects RX6 yX6_clean yX6_clean, .methodLink RL 43 yX6_dirt, .instanceMethod yX6_dirt, .selects RX6 yX6_dirt yX6_dirt, .methodLink RL 39 yX6_weak, .instanceMethod yX6_weak, .selects RX6 yX6_weak yX6_weak, .methodLink RL 36 yX6_mark, .instanceMethod yX6_mark, .selects RX6 yX6_mark yX6_mark, .methodLink RL 29 yL_write, .static yL_write, .methodLink RL 26 yX6_speed, .instanceMethod yX6_speed, .selects RX6 yX6_speed yX6_speed] : List Cond) ++ (u_ws RX6 TX6 7 ++ (wq_X6_init ++ (wq_X6_track ++ (wq_L_cell ++ (wq_L_below ++ (wq_X6_ofTrack_B1 ++ (wq_X6_read_B ++ (wq_X6_clean_B ++ (wq_X6_dirt_B ++ (wq_X6_weak_B ++ (wq_X6_mark_B ++ (wq_L_write ++ (wq_X6_speed_B ++ ([] : List Cond)))))))))))))))
theorem gd_L_bench : wq_L_bench.all goodWord = true := by decide +kernel
theorem n_L_bench_X6 : ∀ w ∈ u_ws RX6 TX6 7, w ∈ wq_L_bench := fun w h => List.mem_cons_of_mem _ (List.mem_append_right _ (List.mem_append_left _ h))
theorem h_L_bench_0 : GoodIn wq_L_bench (wq_X6_init) := goodIn_sub (fun w h => List.mem_cons_of_mem _ (List.mem_append_right _ (List.mem_append_right _ (List.mem_append_left _ h)))) gd_X6_init
theorem h_L_bench_1 : GoodIn wq_L_bench (wsV RL 12 RX6 yX6_track wq_X6_track) := goodIn_app (goodIn_r _ [6, 7, 8, 3] (by decide +kernel) (by decide +kernel)) (goodIn_sub (fun w h => List.mem_cons_of_mem _ (List.mem_append_right _ (List.mem_append_right _ (List.mem_append_right _ (List.mem_append_left _ h))))) gd_X6_track)
theorem h_L_bench_2 : GoodIn wq_L_bench (va_wsS RL 16 yL_cell wq_L_cell) := goodIn_app (goodIn_r _ [9, 10, 11] (by decide +kernel) (by decide +kernel)) (goodIn_sub (fun w h => List.mem_cons_of_mem _ (List.mem_append_right _ (List.mem_append_right _ (List.mem_append_right _ (List.mem_append_right _ (List.mem_append_left _ h)))))) gd_L_cell)
theorem h_L_bench_3 : GoodIn wq_L_bench (va_wsS RL 22 yL_below wq_L_below) := goodIn_app (goodIn_r _ [12, 13, 11] (by decide +kernel) (by decide +kernel)) (goodIn_sub (fun w h => List.mem_cons_of_mem _ (List.mem_append_right _ (List.mem_append_right _ (List.mem_append_right _ (List.mem_append_right _ (List.mem_append_right _ (List.mem_append_left _ h))))))) gd_L_below)
theorem h_L_bench_4 : GoodIn wq_L_bench (wsV RL 33 RX6 yX6_ofTrack wq_X6_ofTrack_B1) := goodIn_app (goodIn_r _ [14, 15, 16, 3] (by decide +kernel) (by decide +kernel)) (goodIn_sub (fun w h => List.mem_cons_of_mem _ (List.mem_append_right _ (List.mem_append_right _ (List.mem_append_right _ (List.mem_append_right _ (List.mem_append_right _ (List.mem_append_right _ (List.mem_append_left _ h)))))))) gd_X6_ofTrack_B1)
theorem h_L_bench_5 : GoodIn wq_L_bench (wsV RL 47 RX6 yX6_read wq_X6_read_B) := goodIn_app (goodIn_r _ [17, 18, 19, 3] (by decide +kernel) (by decide +kernel)) (goodIn_sub (fun w h => List.mem_cons_of_mem _ (List.mem_append_right _ (List.mem_append_right _ (List.mem_append_right _ (List.mem_append_right _ (List.mem_append_right _ (List.mem_append_right _ (List.mem_append_right _ (List.mem_append_left _ h))))))))) gd_X6_read_B)
theorem h_L_bench_6 : GoodIn wq_L_bench (wsV RL 50 RX6 yX6_clean wq_X6_clean_B) := goodIn_app (goodIn_r _ [20, 21, 22, 3] (by decide +kernel) (by decide +kernel)) (goodIn_sub (fun w h => List.mem_cons_of_mem _ (List.mem_append_right _ (List.mem_append_right _ (List.mem_append_right _ (List.mem_append_right _ (List.mem_append_right _ (List.mem_append_right _ (List.mem_append_right _ (List.mem_append_right _ (List.mem_append_left _ h)))))))))) gd_X6_clean_B)
theorem h_L_bench_7 : GoodIn wq_L_bench (wsV RL 43 RX6 yX6_dirt wq_X6_dirt_B) := goodIn_app (goodIn_r _ [23, 24, 25, 3] (by decide +kernel) (by decide +kernel)) (goodIn_sub (fun w h => List.mem_cons_of_mem _ (List.mem_append_right _ (List.mem_append_right _ (List.mem_append_right _ (List.mem_append_right _ (List.mem_append_right _ (List.mem_append_right _ (List.mem_append_right _ (List.mem_append_right _ (List.mem_append_right _ (List.mem_append_left _ h))))))))))) gd_X6_dirt_B)
theorem h_L_bench_8 : GoodIn wq_L_bench (wsV RL 39 RX6 yX6_weak wq_X6_weak_B) := goodIn_app (goodIn_r _ [26, 27, 28, 3] (by decide +kernel) (by decide +kernel)) (goodIn_sub (fun w h => List.mem_cons_of_mem _ (List.mem_append_right _ (List.mem_append_right _ (List.mem_append_right _ (List.mem_append_right _ (List.mem_append_right _ (List.mem_append_right _ (List.mem_append_right _ (List.mem_append_right _ (List.mem_append_right _ (List.mem_append_right _ (List.mem_append_left _ h)))))))))))) gd_X6_weak_B)
theorem h_L_bench_9 : GoodIn wq_L_bench (wsV RL 36 RX6 yX6_mark wq_X6_mark_B) := goodIn_app (goodIn_r _ [29, 30, 31, 3] (by decide +kernel) (by decide +kernel)) (goodIn_sub (fun w h => List.mem_cons_of_mem _ (List.mem_append_right _ (List.mem_append_right _ (List.mem_append_right _ (List.mem_append_right _ (List.mem_append_right _ (List.mem_append_right _ (List.mem_append_right _ (List.mem_append_right _ (List.mem_append_right _ (List.mem_append_right _ (List.mem_append_right _ (List.mem_append_left _ h))))))))))))) gd_X6_mark_B)
theorem h_L_bench_10 : GoodIn wq_L_bench (va_wsS RL 29 yL_write wq_L_write) := goodIn_app (goodIn_r _ [32, 33, 11] (by decide +kernel) (by decide +kernel)) (goodIn_sub (fun w h => List.mem_cons_of_mem _ (List.mem_append_right _ (List.mem_append_right _ (List.mem_append_right _ (List.mem_append_right _ (List.mem_append_right _ (List.mem_append_right _ (List.mem_append_right _ (List.mem_append_right _ (List.mem_append_right _ (List.mem_append_right _ (List.mem_append_right _ (List.mem_append_right _ (List.mem_append_left _ h)))))))))))))) gd_L_write)
theorem h_L_bench_11 : GoodIn wq_L_bench (wsV RL 26 RX6 yX6_speed wq_X6_speed_B) := goodIn_app (goodIn_r _ [34, 35, 36, 3] (by decide +kernel) (by decide +kernel)) (goodIn_sub (fun w h => List.mem_cons_of_mem _ (List.mem_append_right _ (List.mem_append_right _ (List.mem_append_right _ (List.mem_append_right _ (List.mem_append_right _ (List.mem_append_right _ (List.mem_append_right _ (List.mem_append_right _ (List.mem_append_right _ (List.mem_append_right _ (List.mem_append_right _ (List.mem_append_right _ (List.mem_append_right _ (List.mem_append_left _ h))))))))))))))) gd_X6_speed_B)
set_option maxHeartbeats 4000000 in
set_option maxRecDepth 100000 in
theorem c_L_bench (l : Launch) (D : va_G) (kA : Nat → ClassId) (z : Nat) (hfl : l.stackTraces = false) (cd : Nat) (hcd : cd ≤ 2) : mR l D (tyL kA) z yL_bench wq_L_bench ({ frames := 9, cells := 110, slots := 14000, locals := 215 }) [.ref z, .int (nI cd)] [] (fun r w => ∃ (B : BS), w = (wB kA B) ∧ (B.2 0 = r) ∧ (LI B 4) ∧ (B.2 5 = 0) ∧ (B.2 6 = 0)) := by
  refine ofR (cc := cL_bench) (maxL := 5) RL rfl (by decide +kernel) rfl (Nat.le_of_ble_eq_true rfl) ?_
  intro p e s m args below meth c A ls hE
  obtain ⟨hx, hb, hr, hml, hts, hown, hlocks, hA, hS, hP, hK, hD, hG, hl⟩ := hE
  have hl : lv_has ls 5 [(0, .ref z), (1, .int (nI cd))] := hl
  have hH : s.heap = s.heap := rfl
  obtain ⟨L9, xs9, hTz, hL9⟩ := hG.2.2.2.2
  refine va_new (ci := 5) (fs := [.null, .int 0, .int 0, .int 0, .int 0, .int 0, .int 0]) (C := RX6) (T := TX6) (N := 7) hx hb hts n_L_bench_X6 tyX6 tyX6_ok hown (wAt hts 1 (w := .classLink RL 9 RX6) rfl) (wAt hts 2 (w := .instantiable RX6 7) rfl) (wAt hts 3 (w := .initialized RX6) rfl) hK hP hD hS hA rfl (fun j hj => by rcases j with _ | _ | _ | _ | _ | _ | _ | _ <;> first | rfl | omega) (Nat.le_of_ble_eq_true rfl) (Nat.le_of_ble_eq_true rfl) dL_bench_0 (fun q_1 H hP hD hS => ?_)
  have hP : va_P D vwCl [(q_1, .inr (5, [.null, .int 0, .int 0, .int 0, .int 0, .int 0, .int 0]))] H := hP
  have hD : va_D A [(q_1, .inr (5, [.null, .int 0, .int 0, .int 0, .int 0, .int 0, .int 0]))] := hD
  refine lv_dup hx hb dL_bench_3 rfl ?_
  have hF := va_free (wc := [(q_1, .inr (5, [.null, .int 0, .int 0, .int 0, .int 0, .int 0, .int 0]))]) hD hS hA [0] rfl
  refine va_callv (va_runI (As := []) (rest := [.ref q_1]) ⟨hx, hb, hml, hown, hts⟩ (c_X6_init l D kA z q_1  _) (cwI 0 hts h_L_bench_0 rfl rfl rfl (wAt hts 3 (w := .initialized RX6) rfl) (wAt hts 4 (w := .methodLink RL 11 yX6_init) rfl) (wAt hts 5 (w := .instanceMethod yX6_init) rfl) rfl (by decide +kernel) ⟨Nat.le_of_ble_eq_true rfl, Nat.le_of_ble_eq_true rfl⟩) (fPs hK hP hD hS hG hF [0] (by decide) rfl) rfl rfl hl.1 rfl (lv_room (Nat.le_of_ble_eq_true rfl)) dL_bench_4 ⟨Nat.le_of_ble_eq_true rfl, Nat.le_of_ble_eq_true rfl⟩) hS (fun q _ h => hF q h) hF (fun w1 t H locs ht hvm hw hB hz1 hk1 hS => ?_)
  obtain ⟨hP, hD⟩ := fJ (wr := []) hP hD [0] [] rfl rfl (by decide) (by decide) hk1 hF ht hB
  try dsimp only at hw
  obtain ⟨ta_1, rfl⟩ := hw
  have hP : va_P D vwCl [(q_1, .inr (5, [.ref ta_1, .int (nI 0), .int (nI 8), .int (nI 0), .int (nI 0), .int (nI 0), .int (nI 0)])), (ta_1, .inl (kA 2, 4, .inr (.inr (.inr (.inr (fun _ => none))))))] H := hP
  have hD : va_D A [(q_1, .inr (5, [.ref ta_1, .int (nI 0), .int (nI 8), .int (nI 0), .int (nI 0), .int (nI 0), .int (nI 0)])), (ta_1, .inl (kA 2, 4, .inr (.inr (.inr (.inr (fun _ => none))))))] := hD
  refine lv_astore_n (lv' := [(2, .ref q_1), (0, .ref z), (1, .int (nI cd))]) hx hb dL_bench_7 rfl hl (by decide) rfl (fun ls hl => ?_)
  refine lv_aload_n hx hb dL_bench_8 rfl (lv_at hl 0 rfl) ?_
  refine lv_iload_n hx hb dL_bench_9 rfl (lv_at hl 2 rfl) ?_
  have hF := va_free (wc := [(q_1, .inr (5, [.ref ta_1, .int (nI 0), .int (nI 8), .int (nI 0), .int (nI 0), .int (nI 0), .int (nI 0)])), (ta_1, .inl (kA 2, 4, .inr (.inr (.inr (.inr (fun _ => none))))))]) hD hS hA [0, 1] rfl
  refine va_calli (va_runV (As := [.int (nI cd)]) (rest := []) ⟨hx, hb, hml, hown, hts⟩ (c_X6_track l D kA z q_1 ta_1 0 8 0 0 0 0 cd (fun _ => none) (by first | assumption | omega) (by first | assumption | omega) _) (cwV 1 hts h_L_bench_1 rfl rfl rfl (by decide +kernel) ⟨Nat.le_of_ble_eq_true rfl, Nat.le_of_ble_eq_true rfl⟩) (fPv hK hP hD hS hG hF [0, 1] (by decide) rfl 0 5 rfl rfl rfl) rfl rfl hl.1 rfl (lv_room (Nat.le_of_ble_eq_true rfl)) dL_bench_10 ⟨Nat.le_of_ble_eq_true rfl, Nat.le_of_ble_eq_true rfl⟩) hS (fun q _ h => hF q h) hF (fun r_4 w1 t H locs ht hvm hw hB hz1 hk1 hS => ?_)
  obtain ⟨hP, hD⟩ := fJ (wr := []) hP hD [0, 1] [] rfl rfl (by decide) (by decide) hk1 hF ht hB
  try dsimp only at hw
  obtain ⟨tr_1, su_1, vo_1, fp_1, fg_1, t_1, t_2, t_3, s_1, s_2, s_3, s_4, v_1, p_1, p_2, g_1, g_2, r_1, q_2, r_2, q_3, r_3, q_4, rfl, e_1⟩ := hw
  replace e_1 := e_1.symm
  subst e_1
  have hP : va_P D vwCl [(q_1, .inr (5, [.ref ta_1, .int (nI (0 + 1)), .int (nI 8), .int (nI 0), .int (nI 0), .int (nI 0), .int (nI 0)])), (ta_1, .inl (kA 2, 4, .inr (.inr (.inr (.inr (va_up (fun _ => none) 0 (some tr_1))))))), (tr_1, .inr (3, [.ref su_1, .ref vo_1, .ref fp_1, .ref fg_1, .ref t_1, .ref t_2, .ref t_3, .int (nI cd), .int (nI 0), .int (nI 0), .int (nI 0), .int (nI 0)])), (su_1, .inr (2, [.ref s_1, .ref s_2, .ref s_3, .ref s_4, .int (nI 0), .int (nI 0)])), (s_1, .inl (kA 0, 400, .inl (fun _ => 0))), (s_2, .inl (kA 0, 400, .inl (fun _ => 0))), (s_3, .inl (kA 1, 400, .inl (fun _ => 0))), (s_4, .inl (kA 0, 400, .inl (fun _ => 0))), (vo_1, .inr (1, [.ref v_1, .int (nI 0), .int (nI 1)])), (v_1, .inl (kA 0, 400, .inl (fun _ => 0))), (fp_1, .inr (0, [.int (nI 1), .ref p_1, .ref p_2, .int (nI 0), .int (nI 0), .int (nI 0), .int (nI 0), .int (nI 0), .int (nI 0)])), (p_1, .inl (kA 0, 72, .inl (fun _ => 0))), (p_2, .inl (kA 0, 8, .inl (fun _ => 0))), (fg_1, .inr (0, [.int (nI 2), .ref g_1, .ref g_2, .int (nI 0), .int (nI 0), .int (nI 0), .int (nI 0), .int (nI 0), .int (nI 0)])), (g_1, .inl (kA 0, 72, .inl (fun _ => 0))), (g_2, .inl (kA 0, 8, .inl (fun _ => 0))), (t_1, .inr (4, [.ref r_1, .double 4620693217682128896])), (r_1, .inr (1, [.ref q_2, .int (nI 0), .int (nI 1)])), (q_2, .inl (kA 0, 400, .inl (fun _ => 0))), (t_2, .inr (4, [.ref r_2, .double 4620693217682128896])), (r_2, .inr (1, [.ref q_3, .int (nI 0), .int (nI 1)])), (q_3, .inl (kA 0, 400, .inl (fun _ => 0))), (t_3, .inr (4, [.ref r_3, .double 4620693217682128896])), (r_3, .inr (1, [.ref q_4, .int (nI 0), .int (nI 1)])), (q_4, .inl (kA 0, 400, .inl (fun _ => 0)))] H := hP
  have hD : va_D A [(q_1, .inr (5, [.ref ta_1, .int (nI (0 + 1)), .int (nI 8), .int (nI 0), .int (nI 0), .int (nI 0), .int (nI 0)])), (ta_1, .inl (kA 2, 4, .inr (.inr (.inr (.inr (va_up (fun _ => none) 0 (some tr_1))))))), (tr_1, .inr (3, [.ref su_1, .ref vo_1, .ref fp_1, .ref fg_1, .ref t_1, .ref t_2, .ref t_3, .int (nI cd), .int (nI 0), .int (nI 0), .int (nI 0), .int (nI 0)])), (su_1, .inr (2, [.ref s_1, .ref s_2, .ref s_3, .ref s_4, .int (nI 0), .int (nI 0)])), (s_1, .inl (kA 0, 400, .inl (fun _ => 0))), (s_2, .inl (kA 0, 400, .inl (fun _ => 0))), (s_3, .inl (kA 1, 400, .inl (fun _ => 0))), (s_4, .inl (kA 0, 400, .inl (fun _ => 0))), (vo_1, .inr (1, [.ref v_1, .int (nI 0), .int (nI 1)])), (v_1, .inl (kA 0, 400, .inl (fun _ => 0))), (fp_1, .inr (0, [.int (nI 1), .ref p_1, .ref p_2, .int (nI 0), .int (nI 0), .int (nI 0), .int (nI 0), .int (nI 0), .int (nI 0)])), (p_1, .inl (kA 0, 72, .inl (fun _ => 0))), (p_2, .inl (kA 0, 8, .inl (fun _ => 0))), (fg_1, .inr (0, [.int (nI 2), .ref g_1, .ref g_2, .int (nI 0), .int (nI 0), .int (nI 0), .int (nI 0), .int (nI 0), .int (nI 0)])), (g_1, .inl (kA 0, 72, .inl (fun _ => 0))), (g_2, .inl (kA 0, 8, .inl (fun _ => 0))), (t_1, .inr (4, [.ref r_1, .double 4620693217682128896])), (r_1, .inr (1, [.ref q_2, .int (nI 0), .int (nI 1)])), (q_2, .inl (kA 0, 400, .inl (fun _ => 0))), (t_2, .inr (4, [.ref r_2, .double 4620693217682128896])), (r_2, .inr (1, [.ref q_3, .int (nI 0), .int (nI 1)])), (q_3, .inl (kA 0, 400, .inl (fun _ => 0))), (t_3, .inr (4, [.ref r_3, .double 4620693217682128896])), (r_3, .inr (1, [.ref q_4, .int (nI 0), .int (nI 1)])), (q_4, .inl (kA 0, 400, .inl (fun _ => 0)))] := hD
  refine lv_pop hx hb dL_bench_13 rfl ?_
  refine lv_aload_n hx hb dL_bench_14 rfl (lv_at hl 0 rfl) ?_
  refine lv_iconst (v := nI 0) hx hb dL_bench_15 (by decide) ?_
  have hF := va_free (wc := [(q_1, .inr (5, [.ref ta_1, .int (nI (0 + 1)), .int (nI 8), .int (nI 0), .int (nI 0), .int (nI 0), .int (nI 0)])), (ta_1, .inl (kA 2, 4, .inr (.inr (.inr (.inr (va_up (fun _ => none) 0 (some tr_1)))))))]) hD hS hA [0, 1] rfl
  refine va_calli (va_runV (As := [.int (nI 0)]) (rest := []) ⟨hx, hb, hml, hown, hts⟩ (c_X6_track l D kA z q_1 ta_1 (0 + 1) 8 0 0 0 0 0 (va_up (fun _ => none) 0 (some tr_1)) (by first | assumption | omega) (by first | assumption | omega) _) (cwV 1 hts h_L_bench_1 rfl rfl rfl (by decide +kernel) ⟨Nat.le_of_ble_eq_true rfl, Nat.le_of_ble_eq_true rfl⟩) (fPv hK hP hD hS hG hF [0, 1] (by decide) rfl 0 5 rfl rfl rfl) rfl rfl hl.1 rfl (lv_room (Nat.le_of_ble_eq_true rfl)) dL_bench_16 ⟨Nat.le_of_ble_eq_true rfl, Nat.le_of_ble_eq_true rfl⟩) hS (fun q _ h => hF q h) hF (fun r_8 w1 t H locs ht hvm hw hB hz1 hk1 hS => ?_)
  obtain ⟨hP, hD⟩ := fJ (wr := [(tr_1, .inr (3, [.ref su_1, .ref vo_1, .ref fp_1, .ref fg_1, .ref t_1, .ref t_2, .ref t_3, .int (nI cd), .int (nI 0), .int (nI 0), .int (nI 0), .int (nI 0)])), (su_1, .inr (2, [.ref s_1, .ref s_2, .ref s_3, .ref s_4, .int (nI 0), .int (nI 0)])), (s_1, .inl (kA 0, 400, .inl (fun _ => 0))), (s_2, .inl (kA 0, 400, .inl (fun _ => 0))), (s_3, .inl (kA 1, 400, .inl (fun _ => 0))), (s_4, .inl (kA 0, 400, .inl (fun _ => 0))), (vo_1, .inr (1, [.ref v_1, .int (nI 0), .int (nI 1)])), (v_1, .inl (kA 0, 400, .inl (fun _ => 0))), (fp_1, .inr (0, [.int (nI 1), .ref p_1, .ref p_2, .int (nI 0), .int (nI 0), .int (nI 0), .int (nI 0), .int (nI 0), .int (nI 0)])), (p_1, .inl (kA 0, 72, .inl (fun _ => 0))), (p_2, .inl (kA 0, 8, .inl (fun _ => 0))), (fg_1, .inr (0, [.int (nI 2), .ref g_1, .ref g_2, .int (nI 0), .int (nI 0), .int (nI 0), .int (nI 0), .int (nI 0), .int (nI 0)])), (g_1, .inl (kA 0, 72, .inl (fun _ => 0))), (g_2, .inl (kA 0, 8, .inl (fun _ => 0))), (t_1, .inr (4, [.ref r_1, .double 4620693217682128896])), (r_1, .inr (1, [.ref q_2, .int (nI 0), .int (nI 1)])), (q_2, .inl (kA 0, 400, .inl (fun _ => 0))), (t_2, .inr (4, [.ref r_2, .double 4620693217682128896])), (r_2, .inr (1, [.ref q_3, .int (nI 0), .int (nI 1)])), (q_3, .inl (kA 0, 400, .inl (fun _ => 0))), (t_3, .inr (4, [.ref r_3, .double 4620693217682128896])), (r_3, .inr (1, [.ref q_4, .int (nI 0), .int (nI 1)])), (q_4, .inl (kA 0, 400, .inl (fun _ => 0)))]) hP hD [0, 1] [2, 3, 4, 5, 6, 7, 8, 9, 10, 11, 12, 13, 14, 15, 16, 17, 18, 19, 20, 21, 22, 23, 24] rfl rfl (by decide) (by decide) hk1 hF ht hB
  try dsimp only at hw
  obtain ⟨tr_2, su_2, vo_2, fp_2, fg_2, t_4, t_5, t_6, s_5, s_6, s_7, s_8, v_2, p_3, p_4, g_3, g_4, r_5, q_5, r_6, q_6, r_7, q_7, rfl, e_2⟩ := hw
  replace e_2 := e_2.symm
  subst e_2
  have hP : va_P D vwCl [(tr_1, .inr (3, [.ref su_1, .ref vo_1, .ref fp_1, .ref fg_1, .ref t_1, .ref t_2, .ref t_3, .int (nI cd), .int (nI 0), .int (nI 0), .int (nI 0), .int (nI 0)])), (su_1, .inr (2, [.ref s_1, .ref s_2, .ref s_3, .ref s_4, .int (nI 0), .int (nI 0)])), (s_1, .inl (kA 0, 400, .inl (fun _ => 0))), (s_2, .inl (kA 0, 400, .inl (fun _ => 0))), (s_3, .inl (kA 1, 400, .inl (fun _ => 0))), (s_4, .inl (kA 0, 400, .inl (fun _ => 0))), (vo_1, .inr (1, [.ref v_1, .int (nI 0), .int (nI 1)])), (v_1, .inl (kA 0, 400, .inl (fun _ => 0))), (fp_1, .inr (0, [.int (nI 1), .ref p_1, .ref p_2, .int (nI 0), .int (nI 0), .int (nI 0), .int (nI 0), .int (nI 0), .int (nI 0)])), (p_1, .inl (kA 0, 72, .inl (fun _ => 0))), (p_2, .inl (kA 0, 8, .inl (fun _ => 0))), (fg_1, .inr (0, [.int (nI 2), .ref g_1, .ref g_2, .int (nI 0), .int (nI 0), .int (nI 0), .int (nI 0), .int (nI 0), .int (nI 0)])), (g_1, .inl (kA 0, 72, .inl (fun _ => 0))), (g_2, .inl (kA 0, 8, .inl (fun _ => 0))), (t_1, .inr (4, [.ref r_1, .double 4620693217682128896])), (r_1, .inr (1, [.ref q_2, .int (nI 0), .int (nI 1)])), (q_2, .inl (kA 0, 400, .inl (fun _ => 0))), (t_2, .inr (4, [.ref r_2, .double 4620693217682128896])), (r_2, .inr (1, [.ref q_3, .int (nI 0), .int (nI 1)])), (q_3, .inl (kA 0, 400, .inl (fun _ => 0))), (t_3, .inr (4, [.ref r_3, .double 4620693217682128896])), (r_3, .inr (1, [.ref q_4, .int (nI 0), .int (nI 1)])), (q_4, .inl (kA 0, 400, .inl (fun _ => 0))), (q_1, .inr (5, [.ref ta_1, .int (nI ((0 + 1) + 1)), .int (nI 8), .int (nI 0), .int (nI 0), .int (nI 0), .int (nI 0)])), (ta_1, .inl (kA 2, 4, .inr (.inr (.inr (.inr (va_up (va_up (fun _ => none) 0 (some tr_1)) (0 + 1) (some tr_2))))))), (tr_2, .inr (3, [.ref su_2, .ref vo_2, .ref fp_2, .ref fg_2, .ref t_4, .ref t_5, .ref t_6, .int (nI 0), .int (nI 0), .int (nI 0), .int (nI 0), .int (nI 0)])), (su_2, .inr (2, [.ref s_5, .ref s_6, .ref s_7, .ref s_8, .int (nI 0), .int (nI 0)])), (s_5, .inl (kA 0, 400, .inl (fun _ => 0))), (s_6, .inl (kA 0, 400, .inl (fun _ => 0))), (s_7, .inl (kA 1, 400, .inl (fun _ => 0))), (s_8, .inl (kA 0, 400, .inl (fun _ => 0))), (vo_2, .inr (1, [.ref v_2, .int (nI 0), .int (nI 1)])), (v_2, .inl (kA 0, 400, .inl (fun _ => 0))), (fp_2, .inr (0, [.int (nI 1), .ref p_3, .ref p_4, .int (nI 0), .int (nI 0), .int (nI 0), .int (nI 0), .int (nI 0), .int (nI 0)])), (p_3, .inl (kA 0, 72, .inl (fun _ => 0))), (p_4, .inl (kA 0, 8, .inl (fun _ => 0))), (fg_2, .inr (0, [.int (nI 2), .ref g_3, .ref g_4, .int (nI 0), .int (nI 0), .int (nI 0), .int (nI 0), .int (nI 0), .int (nI 0)])), (g_3, .inl (kA 0, 72, .inl (fun _ => 0))), (g_4, .inl (kA 0, 8, .inl (fun _ => 0))), (t_4, .inr (4, [.ref r_5, .double 4620693217682128896])), (r_5, .inr (1, [.ref q_5, .int (nI 0), .int (nI 1)])), (q_5, .inl (kA 0, 400, .inl (fun _ => 0))), (t_5, .inr (4, [.ref r_6, .double 4620693217682128896])), (r_6, .inr (1, [.ref q_6, .int (nI 0), .int (nI 1)])), (q_6, .inl (kA 0, 400, .inl (fun _ => 0))), (t_6, .inr (4, [.ref r_7, .double 4620693217682128896])), (r_7, .inr (1, [.ref q_7, .int (nI 0), .int (nI 1)])), (q_7, .inl (kA 0, 400, .inl (fun _ => 0)))] H := hP
  have hD : va_D A [(tr_1, .inr (3, [.ref su_1, .ref vo_1, .ref fp_1, .ref fg_1, .ref t_1, .ref t_2, .ref t_3, .int (nI cd), .int (nI 0), .int (nI 0), .int (nI 0), .int (nI 0)])), (su_1, .inr (2, [.ref s_1, .ref s_2, .ref s_3, .ref s_4, .int (nI 0), .int (nI 0)])), (s_1, .inl (kA 0, 400, .inl (fun _ => 0))), (s_2, .inl (kA 0, 400, .inl (fun _ => 0))), (s_3, .inl (kA 1, 400, .inl (fun _ => 0))), (s_4, .inl (kA 0, 400, .inl (fun _ => 0))), (vo_1, .inr (1, [.ref v_1, .int (nI 0), .int (nI 1)])), (v_1, .inl (kA 0, 400, .inl (fun _ => 0))), (fp_1, .inr (0, [.int (nI 1), .ref p_1, .ref p_2, .int (nI 0), .int (nI 0), .int (nI 0), .int (nI 0), .int (nI 0), .int (nI 0)])), (p_1, .inl (kA 0, 72, .inl (fun _ => 0))), (p_2, .inl (kA 0, 8, .inl (fun _ => 0))), (fg_1, .inr (0, [.int (nI 2), .ref g_1, .ref g_2, .int (nI 0), .int (nI 0), .int (nI 0), .int (nI 0), .int (nI 0), .int (nI 0)])), (g_1, .inl (kA 0, 72, .inl (fun _ => 0))), (g_2, .inl (kA 0, 8, .inl (fun _ => 0))), (t_1, .inr (4, [.ref r_1, .double 4620693217682128896])), (r_1, .inr (1, [.ref q_2, .int (nI 0), .int (nI 1)])), (q_2, .inl (kA 0, 400, .inl (fun _ => 0))), (t_2, .inr (4, [.ref r_2, .double 4620693217682128896])), (r_2, .inr (1, [.ref q_3, .int (nI 0), .int (nI 1)])), (q_3, .inl (kA 0, 400, .inl (fun _ => 0))), (t_3, .inr (4, [.ref r_3, .double 4620693217682128896])), (r_3, .inr (1, [.ref q_4, .int (nI 0), .int (nI 1)])), (q_4, .inl (kA 0, 400, .inl (fun _ => 0))), (q_1, .inr (5, [.ref ta_1, .int (nI ((0 + 1) + 1)), .int (nI 8), .int (nI 0), .int (nI 0), .int (nI 0), .int (nI 0)])), (ta_1, .inl (kA 2, 4, .inr (.inr (.inr (.inr (va_up (va_up (fun _ => none) 0 (some tr_1)) (0 + 1) (some tr_2))))))), (tr_2, .inr (3, [.ref su_2, .ref vo_2, .ref fp_2, .ref fg_2, .ref t_4, .ref t_5, .ref t_6, .int (nI 0), .int (nI 0), .int (nI 0), .int (nI 0), .int (nI 0)])), (su_2, .inr (2, [.ref s_5, .ref s_6, .ref s_7, .ref s_8, .int (nI 0), .int (nI 0)])), (s_5, .inl (kA 0, 400, .inl (fun _ => 0))), (s_6, .inl (kA 0, 400, .inl (fun _ => 0))), (s_7, .inl (kA 1, 400, .inl (fun _ => 0))), (s_8, .inl (kA 0, 400, .inl (fun _ => 0))), (vo_2, .inr (1, [.ref v_2, .int (nI 0), .int (nI 1)])), (v_2, .inl (kA 0, 400, .inl (fun _ => 0))), (fp_2, .inr (0, [.int (nI 1), .ref p_3, .ref p_4, .int (nI 0), .int (nI 0), .int (nI 0), .int (nI 0), .int (nI 0), .int (nI 0)])), (p_3, .inl (kA 0, 72, .inl (fun _ => 0))), (p_4, .inl (kA 0, 8, .inl (fun _ => 0))), (fg_2, .inr (0, [.int (nI 2), .ref g_3, .ref g_4, .int (nI 0), .int (nI 0), .int (nI 0), .int (nI 0), .int (nI 0), .int (nI 0)])), (g_3, .inl (kA 0, 72, .inl (fun _ => 0))), (g_4, .inl (kA 0, 8, .inl (fun _ => 0))), (t_4, .inr (4, [.ref r_5, .double 4620693217682128896])), (r_5, .inr (1, [.ref q_5, .int (nI 0), .int (nI 1)])), (q_5, .inl (kA 0, 400, .inl (fun _ => 0))), (t_5, .inr (4, [.ref r_6, .double 4620693217682128896])), (r_6, .inr (1, [.ref q_6, .int (nI 0), .int (nI 1)])), (q_6, .inl (kA 0, 400, .inl (fun _ => 0))), (t_6, .inr (4, [.ref r_7, .double 4620693217682128896])), (r_7, .inr (1, [.ref q_7, .int (nI 0), .int (nI 1)])), (q_7, .inl (kA 0, 400, .inl (fun _ => 0)))] := hD
  refine lv_pop hx hb dL_bench_19 rfl ?_
  refine lv_aload_n hx hb dL_bench_20 rfl (lv_at hl 0 rfl) ?_
  refine lv_iconst (v := nI 0) hx hb dL_bench_21 (by decide) ?_
  have hF := va_free (wc := [(q_1, .inr (5, [.ref ta_1, .int (nI ((0 + 1) + 1)), .int (nI 8), .int (nI 0), .int (nI 0), .int (nI 0), .int (nI 0)])), (ta_1, .inl (kA 2, 4, .inr (.inr (.inr (.inr (va_up (va_up (fun _ => none) 0 (some tr_1)) (0 + 1) (some tr_2)))))))]) hD hS hA [23, 24] rfl
  refine va_calli (va_runV (As := [.int (nI 0)]) (rest := []) ⟨hx, hb, hml, hown, hts⟩ (c_X6_track l D kA z q_1 ta_1 ((0 + 1) + 1) 8 0 0 0 0 0 (va_up (va_up (fun _ => none) 0 (some tr_1)) (0 + 1) (some tr_2)) (by first | assumption | omega) (by first | assumption | omega) _) (cwV 1 hts h_L_bench_1 rfl rfl rfl (by decide +kernel) ⟨Nat.le_of_ble_eq_true rfl, Nat.le_of_ble_eq_true rfl⟩) (fPv hK hP hD hS hG hF [23, 24] (by decide) rfl 23 5 rfl rfl rfl) rfl rfl hl.1 rfl (lv_room (Nat.le_of_ble_eq_true rfl)) dL_bench_22 ⟨Nat.le_of_ble_eq_true rfl, Nat.le_of_ble_eq_true rfl⟩) hS (fun q _ h => hF q h) hF (fun r_12 w1 t H locs ht hvm hw hB hz1 hk1 hS => ?_)
  obtain ⟨hP, hD⟩ := fJ (wr := [(tr_1, .inr (3, [.ref su_1, .ref vo_1, .ref fp_1, .ref fg_1, .ref t_1, .ref t_2, .ref t_3, .int (nI cd), .int (nI 0), .int (nI 0), .int (nI 0), .int (nI 0)])), (su_1, .inr (2, [.ref s_1, .ref s_2, .ref s_3, .ref s_4, .int (nI 0), .int (nI 0)])), (s_1, .inl (kA 0, 400, .inl (fun _ => 0))), (s_2, .inl (kA 0, 400, .inl (fun _ => 0))), (s_3, .inl (kA 1, 400, .inl (fun _ => 0))), (s_4, .inl (kA 0, 400, .inl (fun _ => 0))), (vo_1, .inr (1, [.ref v_1, .int (nI 0), .int (nI 1)])), (v_1, .inl (kA 0, 400, .inl (fun _ => 0))), (fp_1, .inr (0, [.int (nI 1), .ref p_1, .ref p_2, .int (nI 0), .int (nI 0), .int (nI 0), .int (nI 0), .int (nI 0), .int (nI 0)])), (p_1, .inl (kA 0, 72, .inl (fun _ => 0))), (p_2, .inl (kA 0, 8, .inl (fun _ => 0))), (fg_1, .inr (0, [.int (nI 2), .ref g_1, .ref g_2, .int (nI 0), .int (nI 0), .int (nI 0), .int (nI 0), .int (nI 0), .int (nI 0)])), (g_1, .inl (kA 0, 72, .inl (fun _ => 0))), (g_2, .inl (kA 0, 8, .inl (fun _ => 0))), (t_1, .inr (4, [.ref r_1, .double 4620693217682128896])), (r_1, .inr (1, [.ref q_2, .int (nI 0), .int (nI 1)])), (q_2, .inl (kA 0, 400, .inl (fun _ => 0))), (t_2, .inr (4, [.ref r_2, .double 4620693217682128896])), (r_2, .inr (1, [.ref q_3, .int (nI 0), .int (nI 1)])), (q_3, .inl (kA 0, 400, .inl (fun _ => 0))), (t_3, .inr (4, [.ref r_3, .double 4620693217682128896])), (r_3, .inr (1, [.ref q_4, .int (nI 0), .int (nI 1)])), (q_4, .inl (kA 0, 400, .inl (fun _ => 0))), (tr_2, .inr (3, [.ref su_2, .ref vo_2, .ref fp_2, .ref fg_2, .ref t_4, .ref t_5, .ref t_6, .int (nI 0), .int (nI 0), .int (nI 0), .int (nI 0), .int (nI 0)])), (su_2, .inr (2, [.ref s_5, .ref s_6, .ref s_7, .ref s_8, .int (nI 0), .int (nI 0)])), (s_5, .inl (kA 0, 400, .inl (fun _ => 0))), (s_6, .inl (kA 0, 400, .inl (fun _ => 0))), (s_7, .inl (kA 1, 400, .inl (fun _ => 0))), (s_8, .inl (kA 0, 400, .inl (fun _ => 0))), (vo_2, .inr (1, [.ref v_2, .int (nI 0), .int (nI 1)])), (v_2, .inl (kA 0, 400, .inl (fun _ => 0))), (fp_2, .inr (0, [.int (nI 1), .ref p_3, .ref p_4, .int (nI 0), .int (nI 0), .int (nI 0), .int (nI 0), .int (nI 0), .int (nI 0)])), (p_3, .inl (kA 0, 72, .inl (fun _ => 0))), (p_4, .inl (kA 0, 8, .inl (fun _ => 0))), (fg_2, .inr (0, [.int (nI 2), .ref g_3, .ref g_4, .int (nI 0), .int (nI 0), .int (nI 0), .int (nI 0), .int (nI 0), .int (nI 0)])), (g_3, .inl (kA 0, 72, .inl (fun _ => 0))), (g_4, .inl (kA 0, 8, .inl (fun _ => 0))), (t_4, .inr (4, [.ref r_5, .double 4620693217682128896])), (r_5, .inr (1, [.ref q_5, .int (nI 0), .int (nI 1)])), (q_5, .inl (kA 0, 400, .inl (fun _ => 0))), (t_5, .inr (4, [.ref r_6, .double 4620693217682128896])), (r_6, .inr (1, [.ref q_6, .int (nI 0), .int (nI 1)])), (q_6, .inl (kA 0, 400, .inl (fun _ => 0))), (t_6, .inr (4, [.ref r_7, .double 4620693217682128896])), (r_7, .inr (1, [.ref q_7, .int (nI 0), .int (nI 1)])), (q_7, .inl (kA 0, 400, .inl (fun _ => 0)))]) hP hD [23, 24] [0, 1, 2, 3, 4, 5, 6, 7, 8, 9, 10, 11, 12, 13, 14, 15, 16, 17, 18, 19, 20, 21, 22, 25, 26, 27, 28, 29, 30, 31, 32, 33, 34, 35, 36, 37, 38, 39, 40, 41, 42, 43, 44, 45, 46, 47] rfl rfl (by decide) (by decide) hk1 hF ht hB
  try dsimp only at hw
  obtain ⟨tr_3, su_3, vo_3, fp_3, fg_3, t_7, t_8, t_9, s_9, s_10, s_11, s_12, v_3, p_5, p_6, g_5, g_6, r_9, q_8, r_10, q_9, r_11, q_10, rfl, e_3⟩ := hw
  replace e_3 := e_3.symm
  subst e_3
  have hP : va_P D vwCl [(tr_1, .inr (3, [.ref su_1, .ref vo_1, .ref fp_1, .ref fg_1, .ref t_1, .ref t_2, .ref t_3, .int (nI cd), .int (nI 0), .int (nI 0), .int (nI 0), .int (nI 0)])), (su_1, .inr (2, [.ref s_1, .ref s_2, .ref s_3, .ref s_4, .int (nI 0), .int (nI 0)])), (s_1, .inl (kA 0, 400, .inl (fun _ => 0))), (s_2, .inl (kA 0, 400, .inl (fun _ => 0))), (s_3, .inl (kA 1, 400, .inl (fun _ => 0))), (s_4, .inl (kA 0, 400, .inl (fun _ => 0))), (vo_1, .inr (1, [.ref v_1, .int (nI 0), .int (nI 1)])), (v_1, .inl (kA 0, 400, .inl (fun _ => 0))), (fp_1, .inr (0, [.int (nI 1), .ref p_1, .ref p_2, .int (nI 0), .int (nI 0), .int (nI 0), .int (nI 0), .int (nI 0), .int (nI 0)])), (p_1, .inl (kA 0, 72, .inl (fun _ => 0))), (p_2, .inl (kA 0, 8, .inl (fun _ => 0))), (fg_1, .inr (0, [.int (nI 2), .ref g_1, .ref g_2, .int (nI 0), .int (nI 0), .int (nI 0), .int (nI 0), .int (nI 0), .int (nI 0)])), (g_1, .inl (kA 0, 72, .inl (fun _ => 0))), (g_2, .inl (kA 0, 8, .inl (fun _ => 0))), (t_1, .inr (4, [.ref r_1, .double 4620693217682128896])), (r_1, .inr (1, [.ref q_2, .int (nI 0), .int (nI 1)])), (q_2, .inl (kA 0, 400, .inl (fun _ => 0))), (t_2, .inr (4, [.ref r_2, .double 4620693217682128896])), (r_2, .inr (1, [.ref q_3, .int (nI 0), .int (nI 1)])), (q_3, .inl (kA 0, 400, .inl (fun _ => 0))), (t_3, .inr (4, [.ref r_3, .double 4620693217682128896])), (r_3, .inr (1, [.ref q_4, .int (nI 0), .int (nI 1)])), (q_4, .inl (kA 0, 400, .inl (fun _ => 0))), (tr_2, .inr (3, [.ref su_2, .ref vo_2, .ref fp_2, .ref fg_2, .ref t_4, .ref t_5, .ref t_6, .int (nI 0), .int (nI 0), .int (nI 0), .int (nI 0), .int (nI 0)])), (su_2, .inr (2, [.ref s_5, .ref s_6, .ref s_7, .ref s_8, .int (nI 0), .int (nI 0)])), (s_5, .inl (kA 0, 400, .inl (fun _ => 0))), (s_6, .inl (kA 0, 400, .inl (fun _ => 0))), (s_7, .inl (kA 1, 400, .inl (fun _ => 0))), (s_8, .inl (kA 0, 400, .inl (fun _ => 0))), (vo_2, .inr (1, [.ref v_2, .int (nI 0), .int (nI 1)])), (v_2, .inl (kA 0, 400, .inl (fun _ => 0))), (fp_2, .inr (0, [.int (nI 1), .ref p_3, .ref p_4, .int (nI 0), .int (nI 0), .int (nI 0), .int (nI 0), .int (nI 0), .int (nI 0)])), (p_3, .inl (kA 0, 72, .inl (fun _ => 0))), (p_4, .inl (kA 0, 8, .inl (fun _ => 0))), (fg_2, .inr (0, [.int (nI 2), .ref g_3, .ref g_4, .int (nI 0), .int (nI 0), .int (nI 0), .int (nI 0), .int (nI 0), .int (nI 0)])), (g_3, .inl (kA 0, 72, .inl (fun _ => 0))), (g_4, .inl (kA 0, 8, .inl (fun _ => 0))), (t_4, .inr (4, [.ref r_5, .double 4620693217682128896])), (r_5, .inr (1, [.ref q_5, .int (nI 0), .int (nI 1)])), (q_5, .inl (kA 0, 400, .inl (fun _ => 0))), (t_5, .inr (4, [.ref r_6, .double 4620693217682128896])), (r_6, .inr (1, [.ref q_6, .int (nI 0), .int (nI 1)])), (q_6, .inl (kA 0, 400, .inl (fun _ => 0))), (t_6, .inr (4, [.ref r_7, .double 4620693217682128896])), (r_7, .inr (1, [.ref q_7, .int (nI 0), .int (nI 1)])), (q_7, .inl (kA 0, 400, .inl (fun _ => 0))), (q_1, .inr (5, [.ref ta_1, .int (nI (((0 + 1) + 1) + 1)), .int (nI 8), .int (nI 0), .int (nI 0), .int (nI 0), .int (nI 0)])), (ta_1, .inl (kA 2, 4, .inr (.inr (.inr (.inr (va_up (va_up (va_up (fun _ => none) 0 (some tr_1)) (0 + 1) (some tr_2)) ((0 + 1) + 1) (some tr_3))))))), (tr_3, .inr (3, [.ref su_3, .ref vo_3, .ref fp_3, .ref fg_3, .ref t_7, .ref t_8, .ref t_9, .int (nI 0), .int (nI 0), .int (nI 0), .int (nI 0), .int (nI 0)])), (su_3, .inr (2, [.ref s_9, .ref s_10, .ref s_11, .ref s_12, .int (nI 0), .int (nI 0)])), (s_9, .inl (kA 0, 400, .inl (fun _ => 0))), (s_10, .inl (kA 0, 400, .inl (fun _ => 0))), (s_11, .inl (kA 1, 400, .inl (fun _ => 0))), (s_12, .inl (kA 0, 400, .inl (fun _ => 0))), (vo_3, .inr (1, [.ref v_3, .int (nI 0), .int (nI 1)])), (v_3, .inl (kA 0, 400, .inl (fun _ => 0))), (fp_3, .inr (0, [.int (nI 1), .ref p_5, .ref p_6, .int (nI 0), .int (nI 0), .int (nI 0), .int (nI 0), .int (nI 0), .int (nI 0)])), (p_5, .inl (kA 0, 72, .inl (fun _ => 0))), (p_6, .inl (kA 0, 8, .inl (fun _ => 0))), (fg_3, .inr (0, [.int (nI 2), .ref g_5, .ref g_6, .int (nI 0), .int (nI 0), .int (nI 0), .int (nI 0), .int (nI 0), .int (nI 0)])), (g_5, .inl (kA 0, 72, .inl (fun _ => 0))), (g_6, .inl (kA 0, 8, .inl (fun _ => 0))), (t_7, .inr (4, [.ref r_9, .double 4620693217682128896])), (r_9, .inr (1, [.ref q_8, .int (nI 0), .int (nI 1)])), (q_8, .inl (kA 0, 400, .inl (fun _ => 0))), (t_8, .inr (4, [.ref r_10, .double 4620693217682128896])), (r_10, .inr (1, [.ref q_9, .int (nI 0), .int (nI 1)])), (q_9, .inl (kA 0, 400, .inl (fun _ => 0))), (t_9, .inr (4, [.ref r_11, .double 4620693217682128896])), (r_11, .inr (1, [.ref q_10, .int (nI 0), .int (nI 1)])), (q_10, .inl (kA 0, 400, .inl (fun _ => 0)))] H := hP
  have hD : va_D A [(tr_1, .inr (3, [.ref su_1, .ref vo_1, .ref fp_1, .ref fg_1, .ref t_1, .ref t_2, .ref t_3, .int (nI cd), .int (nI 0), .int (nI 0), .int (nI 0), .int (nI 0)])), (su_1, .inr (2, [.ref s_1, .ref s_2, .ref s_3, .ref s_4, .int (nI 0), .int (nI 0)])), (s_1, .inl (kA 0, 400, .inl (fun _ => 0))), (s_2, .inl (kA 0, 400, .inl (fun _ => 0))), (s_3, .inl (kA 1, 400, .inl (fun _ => 0))), (s_4, .inl (kA 0, 400, .inl (fun _ => 0))), (vo_1, .inr (1, [.ref v_1, .int (nI 0), .int (nI 1)])), (v_1, .inl (kA 0, 400, .inl (fun _ => 0))), (fp_1, .inr (0, [.int (nI 1), .ref p_1, .ref p_2, .int (nI 0), .int (nI 0), .int (nI 0), .int (nI 0), .int (nI 0), .int (nI 0)])), (p_1, .inl (kA 0, 72, .inl (fun _ => 0))), (p_2, .inl (kA 0, 8, .inl (fun _ => 0))), (fg_1, .inr (0, [.int (nI 2), .ref g_1, .ref g_2, .int (nI 0), .int (nI 0), .int (nI 0), .int (nI 0), .int (nI 0), .int (nI 0)])), (g_1, .inl (kA 0, 72, .inl (fun _ => 0))), (g_2, .inl (kA 0, 8, .inl (fun _ => 0))), (t_1, .inr (4, [.ref r_1, .double 4620693217682128896])), (r_1, .inr (1, [.ref q_2, .int (nI 0), .int (nI 1)])), (q_2, .inl (kA 0, 400, .inl (fun _ => 0))), (t_2, .inr (4, [.ref r_2, .double 4620693217682128896])), (r_2, .inr (1, [.ref q_3, .int (nI 0), .int (nI 1)])), (q_3, .inl (kA 0, 400, .inl (fun _ => 0))), (t_3, .inr (4, [.ref r_3, .double 4620693217682128896])), (r_3, .inr (1, [.ref q_4, .int (nI 0), .int (nI 1)])), (q_4, .inl (kA 0, 400, .inl (fun _ => 0))), (tr_2, .inr (3, [.ref su_2, .ref vo_2, .ref fp_2, .ref fg_2, .ref t_4, .ref t_5, .ref t_6, .int (nI 0), .int (nI 0), .int (nI 0), .int (nI 0), .int (nI 0)])), (su_2, .inr (2, [.ref s_5, .ref s_6, .ref s_7, .ref s_8, .int (nI 0), .int (nI 0)])), (s_5, .inl (kA 0, 400, .inl (fun _ => 0))), (s_6, .inl (kA 0, 400, .inl (fun _ => 0))), (s_7, .inl (kA 1, 400, .inl (fun _ => 0))), (s_8, .inl (kA 0, 400, .inl (fun _ => 0))), (vo_2, .inr (1, [.ref v_2, .int (nI 0), .int (nI 1)])), (v_2, .inl (kA 0, 400, .inl (fun _ => 0))), (fp_2, .inr (0, [.int (nI 1), .ref p_3, .ref p_4, .int (nI 0), .int (nI 0), .int (nI 0), .int (nI 0), .int (nI 0), .int (nI 0)])), (p_3, .inl (kA 0, 72, .inl (fun _ => 0))), (p_4, .inl (kA 0, 8, .inl (fun _ => 0))), (fg_2, .inr (0, [.int (nI 2), .ref g_3, .ref g_4, .int (nI 0), .int (nI 0), .int (nI 0), .int (nI 0), .int (nI 0), .int (nI 0)])), (g_3, .inl (kA 0, 72, .inl (fun _ => 0))), (g_4, .inl (kA 0, 8, .inl (fun _ => 0))), (t_4, .inr (4, [.ref r_5, .double 4620693217682128896])), (r_5, .inr (1, [.ref q_5, .int (nI 0), .int (nI 1)])), (q_5, .inl (kA 0, 400, .inl (fun _ => 0))), (t_5, .inr (4, [.ref r_6, .double 4620693217682128896])), (r_6, .inr (1, [.ref q_6, .int (nI 0), .int (nI 1)])), (q_6, .inl (kA 0, 400, .inl (fun _ => 0))), (t_6, .inr (4, [.ref r_7, .double 4620693217682128896])), (r_7, .inr (1, [.ref q_7, .int (nI 0), .int (nI 1)])), (q_7, .inl (kA 0, 400, .inl (fun _ => 0))), (q_1, .inr (5, [.ref ta_1, .int (nI (((0 + 1) + 1) + 1)), .int (nI 8), .int (nI 0), .int (nI 0), .int (nI 0), .int (nI 0)])), (ta_1, .inl (kA 2, 4, .inr (.inr (.inr (.inr (va_up (va_up (va_up (fun _ => none) 0 (some tr_1)) (0 + 1) (some tr_2)) ((0 + 1) + 1) (some tr_3))))))), (tr_3, .inr (3, [.ref su_3, .ref vo_3, .ref fp_3, .ref fg_3, .ref t_7, .ref t_8, .ref t_9, .int (nI 0), .int (nI 0), .int (nI 0), .int (nI 0), .int (nI 0)])), (su_3, .inr (2, [.ref s_9, .ref s_10, .ref s_11, .ref s_12, .int (nI 0), .int (nI 0)])), (s_9, .inl (kA 0, 400, .inl (fun _ => 0))), (s_10, .inl (kA 0, 400, .inl (fun _ => 0))), (s_11, .inl (kA 1, 400, .inl (fun _ => 0))), (s_12, .inl (kA 0, 400, .inl (fun _ => 0))), (vo_3, .inr (1, [.ref v_3, .int (nI 0), .int (nI 1)])), (v_3, .inl (kA 0, 400, .inl (fun _ => 0))), (fp_3, .inr (0, [.int (nI 1), .ref p_5, .ref p_6, .int (nI 0), .int (nI 0), .int (nI 0), .int (nI 0), .int (nI 0), .int (nI 0)])), (p_5, .inl (kA 0, 72, .inl (fun _ => 0))), (p_6, .inl (kA 0, 8, .inl (fun _ => 0))), (fg_3, .inr (0, [.int (nI 2), .ref g_5, .ref g_6, .int (nI 0), .int (nI 0), .int (nI 0), .int (nI 0), .int (nI 0), .int (nI 0)])), (g_5, .inl (kA 0, 72, .inl (fun _ => 0))), (g_6, .inl (kA 0, 8, .inl (fun _ => 0))), (t_7, .inr (4, [.ref r_9, .double 4620693217682128896])), (r_9, .inr (1, [.ref q_8, .int (nI 0), .int (nI 1)])), (q_8, .inl (kA 0, 400, .inl (fun _ => 0))), (t_8, .inr (4, [.ref r_10, .double 4620693217682128896])), (r_10, .inr (1, [.ref q_9, .int (nI 0), .int (nI 1)])), (q_9, .inl (kA 0, 400, .inl (fun _ => 0))), (t_9, .inr (4, [.ref r_11, .double 4620693217682128896])), (r_11, .inr (1, [.ref q_10, .int (nI 0), .int (nI 1)])), (q_10, .inl (kA 0, 400, .inl (fun _ => 0)))] := hD
  refine lv_pop hx hb dL_bench_25 rfl ?_
  refine lv_aload_n hx hb dL_bench_26 rfl (lv_at hl 0 rfl) ?_
  refine lv_iconst (v := nI 0) hx hb dL_bench_27 (by decide) ?_
  have hF := va_free (wc := [(q_1, .inr (5, [.ref ta_1, .int (nI (((0 + 1) + 1) + 1)), .int (nI 8), .int (nI 0), .int (nI 0), .int (nI 0), .int (nI 0)])), (ta_1, .inl (kA 2, 4, .inr (.inr (.inr (.inr (va_up (va_up (va_up (fun _ => none) 0 (some tr_1)) (0 + 1) (some tr_2)) ((0 + 1) + 1) (some tr_3)))))))]) hD hS hA [46, 47] rfl
  refine va_calli (va_runV (As := [.int (nI 0)]) (rest := []) ⟨hx, hb, hml, hown, hts⟩ (c_X6_track l D kA z q_1 ta_1 (((0 + 1) + 1) + 1) 8 0 0 0 0 0 (va_up (va_up (va_up (fun _ => none) 0 (some tr_1)) (0 + 1) (some tr_2)) ((0 + 1) + 1) (some tr_3)) (by first | assumption | omega) (by first | assumption | omega) _) (cwV 1 hts h_L_bench_1 rfl rfl rfl (by decide +kernel) ⟨Nat.le_of_ble_eq_true rfl, Nat.le_of_ble_eq_true rfl⟩) (fPv hK hP hD hS hG hF [46, 47] (by decide) rfl 46 5 rfl rfl rfl) rfl rfl hl.1 rfl (lv_room (Nat.le_of_ble_eq_true rfl)) dL_bench_28 ⟨Nat.le_of_ble_eq_true rfl, Nat.le_of_ble_eq_true rfl⟩) hS (fun q _ h => hF q h) hF (fun r_16 w1 t H locs ht hvm hw hB hz1 hk1 hS => ?_)
  obtain ⟨hP, hD⟩ := fJ (wr := [(tr_1, .inr (3, [.ref su_1, .ref vo_1, .ref fp_1, .ref fg_1, .ref t_1, .ref t_2, .ref t_3, .int (nI cd), .int (nI 0), .int (nI 0), .int (nI 0), .int (nI 0)])), (su_1, .inr (2, [.ref s_1, .ref s_2, .ref s_3, .ref s_4, .int (nI 0), .int (nI 0)])), (s_1, .inl (kA 0, 400, .inl (fun _ => 0))), (s_2, .inl (kA 0, 400, .inl (fun _ => 0))), (s_3, .inl (kA 1, 400, .inl (fun _ => 0))), (s_4, .inl (kA 0, 400, .inl (fun _ => 0))), (vo_1, .inr (1, [.ref v_1, .int (nI 0), .int (nI 1)])), (v_1, .inl (kA 0, 400, .inl (fun _ => 0))), (fp_1, .inr (0, [.int (nI 1), .ref p_1, .ref p_2, .int (nI 0), .int (nI 0), .int (nI 0), .int (nI 0), .int (nI 0), .int (nI 0)])), (p_1, .inl (kA 0, 72, .inl (fun _ => 0))), (p_2, .inl (kA 0, 8, .inl (fun _ => 0))), (fg_1, .inr (0, [.int (nI 2), .ref g_1, .ref g_2, .int (nI 0), .int (nI 0), .int (nI 0), .int (nI 0), .int (nI 0), .int (nI 0)])), (g_1, .inl (kA 0, 72, .inl (fun _ => 0))), (g_2, .inl (kA 0, 8, .inl (fun _ => 0))), (t_1, .inr (4, [.ref r_1, .double 4620693217682128896])), (r_1, .inr (1, [.ref q_2, .int (nI 0), .int (nI 1)])), (q_2, .inl (kA 0, 400, .inl (fun _ => 0))), (t_2, .inr (4, [.ref r_2, .double 4620693217682128896])), (r_2, .inr (1, [.ref q_3, .int (nI 0), .int (nI 1)])), (q_3, .inl (kA 0, 400, .inl (fun _ => 0))), (t_3, .inr (4, [.ref r_3, .double 4620693217682128896])), (r_3, .inr (1, [.ref q_4, .int (nI 0), .int (nI 1)])), (q_4, .inl (kA 0, 400, .inl (fun _ => 0))), (tr_2, .inr (3, [.ref su_2, .ref vo_2, .ref fp_2, .ref fg_2, .ref t_4, .ref t_5, .ref t_6, .int (nI 0), .int (nI 0), .int (nI 0), .int (nI 0), .int (nI 0)])), (su_2, .inr (2, [.ref s_5, .ref s_6, .ref s_7, .ref s_8, .int (nI 0), .int (nI 0)])), (s_5, .inl (kA 0, 400, .inl (fun _ => 0))), (s_6, .inl (kA 0, 400, .inl (fun _ => 0))), (s_7, .inl (kA 1, 400, .inl (fun _ => 0))), (s_8, .inl (kA 0, 400, .inl (fun _ => 0))), (vo_2, .inr (1, [.ref v_2, .int (nI 0), .int (nI 1)])), (v_2, .inl (kA 0, 400, .inl (fun _ => 0))), (fp_2, .inr (0, [.int (nI 1), .ref p_3, .ref p_4, .int (nI 0), .int (nI 0), .int (nI 0), .int (nI 0), .int (nI 0), .int (nI 0)])), (p_3, .inl (kA 0, 72, .inl (fun _ => 0))), (p_4, .inl (kA 0, 8, .inl (fun _ => 0))), (fg_2, .inr (0, [.int (nI 2), .ref g_3, .ref g_4, .int (nI 0), .int (nI 0), .int (nI 0), .int (nI 0), .int (nI 0), .int (nI 0)])), (g_3, .inl (kA 0, 72, .inl (fun _ => 0))), (g_4, .inl (kA 0, 8, .inl (fun _ => 0))), (t_4, .inr (4, [.ref r_5, .double 4620693217682128896])), (r_5, .inr (1, [.ref q_5, .int (nI 0), .int (nI 1)])), (q_5, .inl (kA 0, 400, .inl (fun _ => 0))), (t_5, .inr (4, [.ref r_6, .double 4620693217682128896])), (r_6, .inr (1, [.ref q_6, .int (nI 0), .int (nI 1)])), (q_6, .inl (kA 0, 400, .inl (fun _ => 0))), (t_6, .inr (4, [.ref r_7, .double 4620693217682128896])), (r_7, .inr (1, [.ref q_7, .int (nI 0), .int (nI 1)])), (q_7, .inl (kA 0, 400, .inl (fun _ => 0))), (tr_3, .inr (3, [.ref su_3, .ref vo_3, .ref fp_3, .ref fg_3, .ref t_7, .ref t_8, .ref t_9, .int (nI 0), .int (nI 0), .int (nI 0), .int (nI 0), .int (nI 0)])), (su_3, .inr (2, [.ref s_9, .ref s_10, .ref s_11, .ref s_12, .int (nI 0), .int (nI 0)])), (s_9, .inl (kA 0, 400, .inl (fun _ => 0))), (s_10, .inl (kA 0, 400, .inl (fun _ => 0))), (s_11, .inl (kA 1, 400, .inl (fun _ => 0))), (s_12, .inl (kA 0, 400, .inl (fun _ => 0))), (vo_3, .inr (1, [.ref v_3, .int (nI 0), .int (nI 1)])), (v_3, .inl (kA 0, 400, .inl (fun _ => 0))), (fp_3, .inr (0, [.int (nI 1), .ref p_5, .ref p_6, .int (nI 0), .int (nI 0), .int (nI 0), .int (nI 0), .int (nI 0), .int (nI 0)])), (p_5, .inl (kA 0, 72, .inl (fun _ => 0))), (p_6, .inl (kA 0, 8, .inl (fun _ => 0))), (fg_3, .inr (0, [.int (nI 2), .ref g_5, .ref g_6, .int (nI 0), .int (nI 0), .int (nI 0), .int (nI 0), .int (nI 0), .int (nI 0)])), (g_5, .inl (kA 0, 72, .inl (fun _ => 0))), (g_6, .inl (kA 0, 8, .inl (fun _ => 0))), (t_7, .inr (4, [.ref r_9, .double 4620693217682128896])), (r_9, .inr (1, [.ref q_8, .int (nI 0), .int (nI 1)])), (q_8, .inl (kA 0, 400, .inl (fun _ => 0))), (t_8, .inr (4, [.ref r_10, .double 4620693217682128896])), (r_10, .inr (1, [.ref q_9, .int (nI 0), .int (nI 1)])), (q_9, .inl (kA 0, 400, .inl (fun _ => 0))), (t_9, .inr (4, [.ref r_11, .double 4620693217682128896])), (r_11, .inr (1, [.ref q_10, .int (nI 0), .int (nI 1)])), (q_10, .inl (kA 0, 400, .inl (fun _ => 0)))]) hP hD [46, 47] [0, 1, 2, 3, 4, 5, 6, 7, 8, 9, 10, 11, 12, 13, 14, 15, 16, 17, 18, 19, 20, 21, 22, 23, 24, 25, 26, 27, 28, 29, 30, 31, 32, 33, 34, 35, 36, 37, 38, 39, 40, 41, 42, 43, 44, 45, 48, 49, 50, 51, 52, 53, 54, 55, 56, 57, 58, 59, 60, 61, 62, 63, 64, 65, 66, 67, 68, 69, 70] rfl rfl (by decide) (by decide) hk1 hF ht hB
  try dsimp only at hw
  obtain ⟨tr_4, su_4, vo_4, fp_4, fg_4, t_10, t_11, t_12, s_13, s_14, s_15, s_16, v_4, p_7, p_8, g_7, g_8, r_13, q_11, r_14, q_12, r_15, q_13, rfl, e_4⟩ := hw
  replace e_4 := e_4.symm
  subst e_4
  have hP : va_P D vwCl [(tr_1, .inr (3, [.ref su_1, .ref vo_1, .ref fp_1, .ref fg_1, .ref t_1, .ref t_2, .ref t_3, .int (nI cd), .int (nI 0), .int (nI 0), .int (nI 0), .int (nI 0)])), (su_1, .inr (2, [.ref s_1, .ref s_2, .ref s_3, .ref s_4, .int (nI 0), .int (nI 0)])), (s_1, .inl (kA 0, 400, .inl (fun _ => 0))), (s_2, .inl (kA 0, 400, .inl (fun _ => 0))), (s_3, .inl (kA 1, 400, .inl (fun _ => 0))), (s_4, .inl (kA 0, 400, .inl (fun _ => 0))), (vo_1, .inr (1, [.ref v_1, .int (nI 0), .int (nI 1)])), (v_1, .inl (kA 0, 400, .inl (fun _ => 0))), (fp_1, .inr (0, [.int (nI 1), .ref p_1, .ref p_2, .int (nI 0), .int (nI 0), .int (nI 0), .int (nI 0), .int (nI 0), .int (nI 0)])), (p_1, .inl (kA 0, 72, .inl (fun _ => 0))), (p_2, .inl (kA 0, 8, .inl (fun _ => 0))), (fg_1, .inr (0, [.int (nI 2), .ref g_1, .ref g_2, .int (nI 0), .int (nI 0), .int (nI 0), .int (nI 0), .int (nI 0), .int (nI 0)])), (g_1, .inl (kA 0, 72, .inl (fun _ => 0))), (g_2, .inl (kA 0, 8, .inl (fun _ => 0))), (t_1, .inr (4, [.ref r_1, .double 4620693217682128896])), (r_1, .inr (1, [.ref q_2, .int (nI 0), .int (nI 1)])), (q_2, .inl (kA 0, 400, .inl (fun _ => 0))), (t_2, .inr (4, [.ref r_2, .double 4620693217682128896])), (r_2, .inr (1, [.ref q_3, .int (nI 0), .int (nI 1)])), (q_3, .inl (kA 0, 400, .inl (fun _ => 0))), (t_3, .inr (4, [.ref r_3, .double 4620693217682128896])), (r_3, .inr (1, [.ref q_4, .int (nI 0), .int (nI 1)])), (q_4, .inl (kA 0, 400, .inl (fun _ => 0))), (tr_2, .inr (3, [.ref su_2, .ref vo_2, .ref fp_2, .ref fg_2, .ref t_4, .ref t_5, .ref t_6, .int (nI 0), .int (nI 0), .int (nI 0), .int (nI 0), .int (nI 0)])), (su_2, .inr (2, [.ref s_5, .ref s_6, .ref s_7, .ref s_8, .int (nI 0), .int (nI 0)])), (s_5, .inl (kA 0, 400, .inl (fun _ => 0))), (s_6, .inl (kA 0, 400, .inl (fun _ => 0))), (s_7, .inl (kA 1, 400, .inl (fun _ => 0))), (s_8, .inl (kA 0, 400, .inl (fun _ => 0))), (vo_2, .inr (1, [.ref v_2, .int (nI 0), .int (nI 1)])), (v_2, .inl (kA 0, 400, .inl (fun _ => 0))), (fp_2, .inr (0, [.int (nI 1), .ref p_3, .ref p_4, .int (nI 0), .int (nI 0), .int (nI 0), .int (nI 0), .int (nI 0), .int (nI 0)])), (p_3, .inl (kA 0, 72, .inl (fun _ => 0))), (p_4, .inl (kA 0, 8, .inl (fun _ => 0))), (fg_2, .inr (0, [.int (nI 2), .ref g_3, .ref g_4, .int (nI 0), .int (nI 0), .int (nI 0), .int (nI 0), .int (nI 0), .int (nI 0)])), (g_3, .inl (kA 0, 72, .inl (fun _ => 0))), (g_4, .inl (kA 0, 8, .inl (fun _ => 0))), (t_4, .inr (4, [.ref r_5, .double 4620693217682128896])), (r_5, .inr (1, [.ref q_5, .int (nI 0), .int (nI 1)])), (q_5, .inl (kA 0, 400, .inl (fun _ => 0))), (t_5, .inr (4, [.ref r_6, .double 4620693217682128896])), (r_6, .inr (1, [.ref q_6, .int (nI 0), .int (nI 1)])), (q_6, .inl (kA 0, 400, .inl (fun _ => 0))), (t_6, .inr (4, [.ref r_7, .double 4620693217682128896])), (r_7, .inr (1, [.ref q_7, .int (nI 0), .int (nI 1)])), (q_7, .inl (kA 0, 400, .inl (fun _ => 0))), (tr_3, .inr (3, [.ref su_3, .ref vo_3, .ref fp_3, .ref fg_3, .ref t_7, .ref t_8, .ref t_9, .int (nI 0), .int (nI 0), .int (nI 0), .int (nI 0), .int (nI 0)])), (su_3, .inr (2, [.ref s_9, .ref s_10, .ref s_11, .ref s_12, .int (nI 0), .int (nI 0)])), (s_9, .inl (kA 0, 400, .inl (fun _ => 0))), (s_10, .inl (kA 0, 400, .inl (fun _ => 0))), (s_11, .inl (kA 1, 400, .inl (fun _ => 0))), (s_12, .inl (kA 0, 400, .inl (fun _ => 0))), (vo_3, .inr (1, [.ref v_3, .int (nI 0), .int (nI 1)])), (v_3, .inl (kA 0, 400, .inl (fun _ => 0))), (fp_3, .inr (0, [.int (nI 1), .ref p_5, .ref p_6, .int (nI 0), .int (nI 0), .int (nI 0), .int (nI 0), .int (nI 0), .int (nI 0)])), (p_5, .inl (kA 0, 72, .inl (fun _ => 0))), (p_6, .inl (kA 0, 8, .inl (fun _ => 0))), (fg_3, .inr (0, [.int (nI 2), .ref g_5, .ref g_6, .int (nI 0), .int (nI 0), .int (nI 0), .int (nI 0), .int (nI 0), .int (nI 0)])), (g_5, .inl (kA 0, 72, .inl (fun _ => 0))), (g_6, .inl (kA 0, 8, .inl (fun _ => 0))), (t_7, .inr (4, [.ref r_9, .double 4620693217682128896])), (r_9, .inr (1, [.ref q_8, .int (nI 0), .int (nI 1)])), (q_8, .inl (kA 0, 400, .inl (fun _ => 0))), (t_8, .inr (4, [.ref r_10, .double 4620693217682128896])), (r_10, .inr (1, [.ref q_9, .int (nI 0), .int (nI 1)])), (q_9, .inl (kA 0, 400, .inl (fun _ => 0))), (t_9, .inr (4, [.ref r_11, .double 4620693217682128896])), (r_11, .inr (1, [.ref q_10, .int (nI 0), .int (nI 1)])), (q_10, .inl (kA 0, 400, .inl (fun _ => 0))), (q_1, .inr (5, [.ref ta_1, .int (nI ((((0 + 1) + 1) + 1) + 1)), .int (nI 8), .int (nI 0), .int (nI 0), .int (nI 0), .int (nI 0)])), (ta_1, .inl (kA 2, 4, .inr (.inr (.inr (.inr (va_up (va_up (va_up (va_up (fun _ => none) 0 (some tr_1)) (0 + 1) (some tr_2)) ((0 + 1) + 1) (some tr_3)) (((0 + 1) + 1) + 1) (some tr_4))))))), (tr_4, .inr (3, [.ref su_4, .ref vo_4, .ref fp_4, .ref fg_4, .ref t_10, .ref t_11, .ref t_12, .int (nI 0), .int (nI 0), .int (nI 0), .int (nI 0), .int (nI 0)])), (su_4, .inr (2, [.ref s_13, .ref s_14, .ref s_15, .ref s_16, .int (nI 0), .int (nI 0)])), (s_13, .inl (kA 0, 400, .inl (fun _ => 0))), (s_14, .inl (kA 0, 400, .inl (fun _ => 0))), (s_15, .inl (kA 1, 400, .inl (fun _ => 0))), (s_16, .inl (kA 0, 400, .inl (fun _ => 0))), (vo_4, .inr (1, [.ref v_4, .int (nI 0), .int (nI 1)])), (v_4, .inl (kA 0, 400, .inl (fun _ => 0))), (fp_4, .inr (0, [.int (nI 1), .ref p_7, .ref p_8, .int (nI 0), .int (nI 0), .int (nI 0), .int (nI 0), .int (nI 0), .int (nI 0)])), (p_7, .inl (kA 0, 72, .inl (fun _ => 0))), (p_8, .inl (kA 0, 8, .inl (fun _ => 0))), (fg_4, .inr (0, [.int (nI 2), .ref g_7, .ref g_8, .int (nI 0), .int (nI 0), .int (nI 0), .int (nI 0), .int (nI 0), .int (nI 0)])), (g_7, .inl (kA 0, 72, .inl (fun _ => 0))), (g_8, .inl (kA 0, 8, .inl (fun _ => 0))), (t_10, .inr (4, [.ref r_13, .double 4620693217682128896])), (r_13, .inr (1, [.ref q_11, .int (nI 0), .int (nI 1)])), (q_11, .inl (kA 0, 400, .inl (fun _ => 0))), (t_11, .inr (4, [.ref r_14, .double 4620693217682128896])), (r_14, .inr (1, [.ref q_12, .int (nI 0), .int (nI 1)])), (q_12, .inl (kA 0, 400, .inl (fun _ => 0))), (t_12, .inr (4, [.ref r_15, .double 4620693217682128896])), (r_15, .inr (1, [.ref q_13, .int (nI 0), .int (nI 1)])), (q_13, .inl (kA 0, 400, .inl (fun _ => 0)))] H := hP
  have hD : va_D A [(tr_1, .inr (3, [.ref su_1, .ref vo_1, .ref fp_1, .ref fg_1, .ref t_1, .ref t_2, .ref t_3, .int (nI cd), .int (nI 0), .int (nI 0), .int (nI 0), .int (nI 0)])), (su_1, .inr (2, [.ref s_1, .ref s_2, .ref s_3, .ref s_4, .int (nI 0), .int (nI 0)])), (s_1, .inl (kA 0, 400, .inl (fun _ => 0))), (s_2, .inl (kA 0, 400, .inl (fun _ => 0))), (s_3, .inl (kA 1, 400, .inl (fun _ => 0))), (s_4, .inl (kA 0, 400, .inl (fun _ => 0))), (vo_1, .inr (1, [.ref v_1, .int (nI 0), .int (nI 1)])), (v_1, .inl (kA 0, 400, .inl (fun _ => 0))), (fp_1, .inr (0, [.int (nI 1), .ref p_1, .ref p_2, .int (nI 0), .int (nI 0), .int (nI 0), .int (nI 0), .int (nI 0), .int (nI 0)])), (p_1, .inl (kA 0, 72, .inl (fun _ => 0))), (p_2, .inl (kA 0, 8, .inl (fun _ => 0))), (fg_1, .inr (0, [.int (nI 2), .ref g_1, .ref g_2, .int (nI 0), .int (nI 0), .int (nI 0), .int (nI 0), .int (nI 0), .int (nI 0)])), (g_1, .inl (kA 0, 72, .inl (fun _ => 0))), (g_2, .inl (kA 0, 8, .inl (fun _ => 0))), (t_1, .inr (4, [.ref r_1, .double 4620693217682128896])), (r_1, .inr (1, [.ref q_2, .int (nI 0), .int (nI 1)])), (q_2, .inl (kA 0, 400, .inl (fun _ => 0))), (t_2, .inr (4, [.ref r_2, .double 4620693217682128896])), (r_2, .inr (1, [.ref q_3, .int (nI 0), .int (nI 1)])), (q_3, .inl (kA 0, 400, .inl (fun _ => 0))), (t_3, .inr (4, [.ref r_3, .double 4620693217682128896])), (r_3, .inr (1, [.ref q_4, .int (nI 0), .int (nI 1)])), (q_4, .inl (kA 0, 400, .inl (fun _ => 0))), (tr_2, .inr (3, [.ref su_2, .ref vo_2, .ref fp_2, .ref fg_2, .ref t_4, .ref t_5, .ref t_6, .int (nI 0), .int (nI 0), .int (nI 0), .int (nI 0), .int (nI 0)])), (su_2, .inr (2, [.ref s_5, .ref s_6, .ref s_7, .ref s_8, .int (nI 0), .int (nI 0)])), (s_5, .inl (kA 0, 400, .inl (fun _ => 0))), (s_6, .inl (kA 0, 400, .inl (fun _ => 0))), (s_7, .inl (kA 1, 400, .inl (fun _ => 0))), (s_8, .inl (kA 0, 400, .inl (fun _ => 0))), (vo_2, .inr (1, [.ref v_2, .int (nI 0), .int (nI 1)])), (v_2, .inl (kA 0, 400, .inl (fun _ => 0))), (fp_2, .inr (0, [.int (nI 1), .ref p_3, .ref p_4, .int (nI 0), .int (nI 0), .int (nI 0), .int (nI 0), .int (nI 0), .int (nI 0)])), (p_3, .inl (kA 0, 72, .inl (fun _ => 0))), (p_4, .inl (kA 0, 8, .inl (fun _ => 0))), (fg_2, .inr (0, [.int (nI 2), .ref g_3, .ref g_4, .int (nI 0), .int (nI 0), .int (nI 0), .int (nI 0), .int (nI 0), .int (nI 0)])), (g_3, .inl (kA 0, 72, .inl (fun _ => 0))), (g_4, .inl (kA 0, 8, .inl (fun _ => 0))), (t_4, .inr (4, [.ref r_5, .double 4620693217682128896])), (r_5, .inr (1, [.ref q_5, .int (nI 0), .int (nI 1)])), (q_5, .inl (kA 0, 400, .inl (fun _ => 0))), (t_5, .inr (4, [.ref r_6, .double 4620693217682128896])), (r_6, .inr (1, [.ref q_6, .int (nI 0), .int (nI 1)])), (q_6, .inl (kA 0, 400, .inl (fun _ => 0))), (t_6, .inr (4, [.ref r_7, .double 4620693217682128896])), (r_7, .inr (1, [.ref q_7, .int (nI 0), .int (nI 1)])), (q_7, .inl (kA 0, 400, .inl (fun _ => 0))), (tr_3, .inr (3, [.ref su_3, .ref vo_3, .ref fp_3, .ref fg_3, .ref t_7, .ref t_8, .ref t_9, .int (nI 0), .int (nI 0), .int (nI 0), .int (nI 0), .int (nI 0)])), (su_3, .inr (2, [.ref s_9, .ref s_10, .ref s_11, .ref s_12, .int (nI 0), .int (nI 0)])), (s_9, .inl (kA 0, 400, .inl (fun _ => 0))), (s_10, .inl (kA 0, 400, .inl (fun _ => 0))), (s_11, .inl (kA 1, 400, .inl (fun _ => 0))), (s_12, .inl (kA 0, 400, .inl (fun _ => 0))), (vo_3, .inr (1, [.ref v_3, .int (nI 0), .int (nI 1)])), (v_3, .inl (kA 0, 400, .inl (fun _ => 0))), (fp_3, .inr (0, [.int (nI 1), .ref p_5, .ref p_6, .int (nI 0), .int (nI 0), .int (nI 0), .int (nI 0), .int (nI 0), .int (nI 0)])), (p_5, .inl (kA 0, 72, .inl (fun _ => 0))), (p_6, .inl (kA 0, 8, .inl (fun _ => 0))), (fg_3, .inr (0, [.int (nI 2), .ref g_5, .ref g_6, .int (nI 0), .int (nI 0), .int (nI 0), .int (nI 0), .int (nI 0), .int (nI 0)])), (g_5, .inl (kA 0, 72, .inl (fun _ => 0))), (g_6, .inl (kA 0, 8, .inl (fun _ => 0))), (t_7, .inr (4, [.ref r_9, .double 4620693217682128896])), (r_9, .inr (1, [.ref q_8, .int (nI 0), .int (nI 1)])), (q_8, .inl (kA 0, 400, .inl (fun _ => 0))), (t_8, .inr (4, [.ref r_10, .double 4620693217682128896])), (r_10, .inr (1, [.ref q_9, .int (nI 0), .int (nI 1)])), (q_9, .inl (kA 0, 400, .inl (fun _ => 0))), (t_9, .inr (4, [.ref r_11, .double 4620693217682128896])), (r_11, .inr (1, [.ref q_10, .int (nI 0), .int (nI 1)])), (q_10, .inl (kA 0, 400, .inl (fun _ => 0))), (q_1, .inr (5, [.ref ta_1, .int (nI ((((0 + 1) + 1) + 1) + 1)), .int (nI 8), .int (nI 0), .int (nI 0), .int (nI 0), .int (nI 0)])), (ta_1, .inl (kA 2, 4, .inr (.inr (.inr (.inr (va_up (va_up (va_up (va_up (fun _ => none) 0 (some tr_1)) (0 + 1) (some tr_2)) ((0 + 1) + 1) (some tr_3)) (((0 + 1) + 1) + 1) (some tr_4))))))), (tr_4, .inr (3, [.ref su_4, .ref vo_4, .ref fp_4, .ref fg_4, .ref t_10, .ref t_11, .ref t_12, .int (nI 0), .int (nI 0), .int (nI 0), .int (nI 0), .int (nI 0)])), (su_4, .inr (2, [.ref s_13, .ref s_14, .ref s_15, .ref s_16, .int (nI 0), .int (nI 0)])), (s_13, .inl (kA 0, 400, .inl (fun _ => 0))), (s_14, .inl (kA 0, 400, .inl (fun _ => 0))), (s_15, .inl (kA 1, 400, .inl (fun _ => 0))), (s_16, .inl (kA 0, 400, .inl (fun _ => 0))), (vo_4, .inr (1, [.ref v_4, .int (nI 0), .int (nI 1)])), (v_4, .inl (kA 0, 400, .inl (fun _ => 0))), (fp_4, .inr (0, [.int (nI 1), .ref p_7, .ref p_8, .int (nI 0), .int (nI 0), .int (nI 0), .int (nI 0), .int (nI 0), .int (nI 0)])), (p_7, .inl (kA 0, 72, .inl (fun _ => 0))), (p_8, .inl (kA 0, 8, .inl (fun _ => 0))), (fg_4, .inr (0, [.int (nI 2), .ref g_7, .ref g_8, .int (nI 0), .int (nI 0), .int (nI 0), .int (nI 0), .int (nI 0), .int (nI 0)])), (g_7, .inl (kA 0, 72, .inl (fun _ => 0))), (g_8, .inl (kA 0, 8, .inl (fun _ => 0))), (t_10, .inr (4, [.ref r_13, .double 4620693217682128896])), (r_13, .inr (1, [.ref q_11, .int (nI 0), .int (nI 1)])), (q_11, .inl (kA 0, 400, .inl (fun _ => 0))), (t_11, .inr (4, [.ref r_14, .double 4620693217682128896])), (r_14, .inr (1, [.ref q_12, .int (nI 0), .int (nI 1)])), (q_12, .inl (kA 0, 400, .inl (fun _ => 0))), (t_12, .inr (4, [.ref r_15, .double 4620693217682128896])), (r_15, .inr (1, [.ref q_13, .int (nI 0), .int (nI 1)])), (q_13, .inl (kA 0, 400, .inl (fun _ => 0)))] := hD
  refine lv_pop hx hb dL_bench_31 rfl ?_
  obtain ⟨a9, ha9⟩ : ∃ f : Nat → List Nat, f = (fun k => if k = 0 then [tr_1, su_1, s_1, s_2, s_3, s_4, vo_1, v_1, fp_1, p_1, p_2, fg_1, g_1, g_2, t_1, r_1, q_2, t_2, r_2, q_3, t_3, r_3, q_4] else if k = 1 then [tr_2, su_2, s_5, s_6, s_7, s_8, vo_2, v_2, fp_2, p_3, p_4, fg_2, g_3, g_4, t_4, r_5, q_5, t_5, r_6, q_6, t_6, r_7, q_7] else if k = 2 then [tr_3, su_3, s_9, s_10, s_11, s_12, vo_3, v_3, fp_3, p_5, p_6, fg_3, g_5, g_6, t_7, r_9, q_8, t_8, r_10, q_9, t_9, r_11, q_10] else [tr_4, su_4, s_13, s_14, s_15, s_16, vo_4, v_4, fp_4, p_7, p_8, fg_4, g_7, g_8, t_10, r_13, q_11, t_11, r_14, q_12, t_12, r_15, q_13]) := ⟨_, rfl⟩
  obtain ⟨B, hB9⟩ : ∃ X : BS, X = newB a9 cd q_1 ta_1 := ⟨_, rfl⟩
  have hgg : va_up (va_up (va_up (va_up (fun _ => none) 0 (some tr_1)) (0 + 1) (some tr_2)) ((0 + 1) + 1) (some tr_3)) (((0 + 1) + 1) + 1) (some tr_4) = bG B.1 := by
    rw [hB9, ha9]
    funext k
    rcases k with _ | _ | _ | _ | k
    · rfl
    · rfl
    · rfl
    · rfl
    · simp [va_up, bG]
  rw [hgg] at hP hD
  have hpm : (wB kA B).Perm ([(tr_1, .inr (3, [.ref su_1, .ref vo_1, .ref fp_1, .ref fg_1, .ref t_1, .ref t_2, .ref t_3, .int (nI cd), .int (nI 0), .int (nI 0), .int (nI 0), .int (nI 0)])), (su_1, .inr (2, [.ref s_1, .ref s_2, .ref s_3, .ref s_4, .int (nI 0), .int (nI 0)])), (s_1, .inl (kA 0, 400, .inl (fun _ => 0))), (s_2, .inl (kA 0, 400, .inl (fun _ => 0))), (s_3, .inl (kA 1, 400, .inl (fun _ => 0))), (s_4, .inl (kA 0, 400, .inl (fun _ => 0))), (vo_1, .inr (1, [.ref v_1, .int (nI 0), .int (nI 1)])), (v_1, .inl (kA 0, 400, .inl (fun _ => 0))), (fp_1, .inr (0, [.int (nI 1), .ref p_1, .ref p_2, .int (nI 0), .int (nI 0), .int (nI 0), .int (nI 0), .int (nI 0), .int (nI 0)])), (p_1, .inl (kA 0, 72, .inl (fun _ => 0))), (p_2, .inl (kA 0, 8, .inl (fun _ => 0))), (fg_1, .inr (0, [.int (nI 2), .ref g_1, .ref g_2, .int (nI 0), .int (nI 0), .int (nI 0), .int (nI 0), .int (nI 0), .int (nI 0)])), (g_1, .inl (kA 0, 72, .inl (fun _ => 0))), (g_2, .inl (kA 0, 8, .inl (fun _ => 0))), (t_1, .inr (4, [.ref r_1, .double 4620693217682128896])), (r_1, .inr (1, [.ref q_2, .int (nI 0), .int (nI 1)])), (q_2, .inl (kA 0, 400, .inl (fun _ => 0))), (t_2, .inr (4, [.ref r_2, .double 4620693217682128896])), (r_2, .inr (1, [.ref q_3, .int (nI 0), .int (nI 1)])), (q_3, .inl (kA 0, 400, .inl (fun _ => 0))), (t_3, .inr (4, [.ref r_3, .double 4620693217682128896])), (r_3, .inr (1, [.ref q_4, .int (nI 0), .int (nI 1)])), (q_4, .inl (kA 0, 400, .inl (fun _ => 0))), (tr_2, .inr (3, [.ref su_2, .ref vo_2, .ref fp_2, .ref fg_2, .ref t_4, .ref t_5, .ref t_6, .int (nI 0), .int (nI 0), .int (nI 0), .int (nI 0), .int (nI 0)])), (su_2, .inr (2, [.ref s_5, .ref s_6, .ref s_7, .ref s_8, .int (nI 0), .int (nI 0)])), (s_5, .inl (kA 0, 400, .inl (fun _ => 0))), (s_6, .inl (kA 0, 400, .inl (fun _ => 0))), (s_7, .inl (kA 1, 400, .inl (fun _ => 0))), (s_8, .inl (kA 0, 400, .inl (fun _ => 0))), (vo_2, .inr (1, [.ref v_2, .int (nI 0), .int (nI 1)])), (v_2, .inl (kA 0, 400, .inl (fun _ => 0))), (fp_2, .inr (0, [.int (nI 1), .ref p_3, .ref p_4, .int (nI 0), .int (nI 0), .int (nI 0), .int (nI 0), .int (nI 0), .int (nI 0)])), (p_3, .inl (kA 0, 72, .inl (fun _ => 0))), (p_4, .inl (kA 0, 8, .inl (fun _ => 0))), (fg_2, .inr (0, [.int (nI 2), .ref g_3, .ref g_4, .int (nI 0), .int (nI 0), .int (nI 0), .int (nI 0), .int (nI 0), .int (nI 0)])), (g_3, .inl (kA 0, 72, .inl (fun _ => 0))), (g_4, .inl (kA 0, 8, .inl (fun _ => 0))), (t_4, .inr (4, [.ref r_5, .double 4620693217682128896])), (r_5, .inr (1, [.ref q_5, .int (nI 0), .int (nI 1)])), (q_5, .inl (kA 0, 400, .inl (fun _ => 0))), (t_5, .inr (4, [.ref r_6, .double 4620693217682128896])), (r_6, .inr (1, [.ref q_6, .int (nI 0), .int (nI 1)])), (q_6, .inl (kA 0, 400, .inl (fun _ => 0))), (t_6, .inr (4, [.ref r_7, .double 4620693217682128896])), (r_7, .inr (1, [.ref q_7, .int (nI 0), .int (nI 1)])), (q_7, .inl (kA 0, 400, .inl (fun _ => 0))), (tr_3, .inr (3, [.ref su_3, .ref vo_3, .ref fp_3, .ref fg_3, .ref t_7, .ref t_8, .ref t_9, .int (nI 0), .int (nI 0), .int (nI 0), .int (nI 0), .int (nI 0)])), (su_3, .inr (2, [.ref s_9, .ref s_10, .ref s_11, .ref s_12, .int (nI 0), .int (nI 0)])), (s_9, .inl (kA 0, 400, .inl (fun _ => 0))), (s_10, .inl (kA 0, 400, .inl (fun _ => 0))), (s_11, .inl (kA 1, 400, .inl (fun _ => 0))), (s_12, .inl (kA 0, 400, .inl (fun _ => 0))), (vo_3, .inr (1, [.ref v_3, .int (nI 0), .int (nI 1)])), (v_3, .inl (kA 0, 400, .inl (fun _ => 0))), (fp_3, .inr (0, [.int (nI 1), .ref p_5, .ref p_6, .int (nI 0), .int (nI 0), .int (nI 0), .int (nI 0), .int (nI 0), .int (nI 0)])), (p_5, .inl (kA 0, 72, .inl (fun _ => 0))), (p_6, .inl (kA 0, 8, .inl (fun _ => 0))), (fg_3, .inr (0, [.int (nI 2), .ref g_5, .ref g_6, .int (nI 0), .int (nI 0), .int (nI 0), .int (nI 0), .int (nI 0), .int (nI 0)])), (g_5, .inl (kA 0, 72, .inl (fun _ => 0))), (g_6, .inl (kA 0, 8, .inl (fun _ => 0))), (t_7, .inr (4, [.ref r_9, .double 4620693217682128896])), (r_9, .inr (1, [.ref q_8, .int (nI 0), .int (nI 1)])), (q_8, .inl (kA 0, 400, .inl (fun _ => 0))), (t_8, .inr (4, [.ref r_10, .double 4620693217682128896])), (r_10, .inr (1, [.ref q_9, .int (nI 0), .int (nI 1)])), (q_9, .inl (kA 0, 400, .inl (fun _ => 0))), (t_9, .inr (4, [.ref r_11, .double 4620693217682128896])), (r_11, .inr (1, [.ref q_10, .int (nI 0), .int (nI 1)])), (q_10, .inl (kA 0, 400, .inl (fun _ => 0))), (q_1, .inr (5, [.ref ta_1, .int (nI ((((0 + 1) + 1) + 1) + 1)), .int (nI 8), .int (nI 0), .int (nI 0), .int (nI 0), .int (nI 0)])), (ta_1, .inl (kA 2, 4, .inr (.inr (.inr (.inr (bG B.1)))))), (tr_4, .inr (3, [.ref su_4, .ref vo_4, .ref fp_4, .ref fg_4, .ref t_10, .ref t_11, .ref t_12, .int (nI 0), .int (nI 0), .int (nI 0), .int (nI 0), .int (nI 0)])), (su_4, .inr (2, [.ref s_13, .ref s_14, .ref s_15, .ref s_16, .int (nI 0), .int (nI 0)])), (s_13, .inl (kA 0, 400, .inl (fun _ => 0))), (s_14, .inl (kA 0, 400, .inl (fun _ => 0))), (s_15, .inl (kA 1, 400, .inl (fun _ => 0))), (s_16, .inl (kA 0, 400, .inl (fun _ => 0))), (vo_4, .inr (1, [.ref v_4, .int (nI 0), .int (nI 1)])), (v_4, .inl (kA 0, 400, .inl (fun _ => 0))), (fp_4, .inr (0, [.int (nI 1), .ref p_7, .ref p_8, .int (nI 0), .int (nI 0), .int (nI 0), .int (nI 0), .int (nI 0), .int (nI 0)])), (p_7, .inl (kA 0, 72, .inl (fun _ => 0))), (p_8, .inl (kA 0, 8, .inl (fun _ => 0))), (fg_4, .inr (0, [.int (nI 2), .ref g_7, .ref g_8, .int (nI 0), .int (nI 0), .int (nI 0), .int (nI 0), .int (nI 0), .int (nI 0)])), (g_7, .inl (kA 0, 72, .inl (fun _ => 0))), (g_8, .inl (kA 0, 8, .inl (fun _ => 0))), (t_10, .inr (4, [.ref r_13, .double 4620693217682128896])), (r_13, .inr (1, [.ref q_11, .int (nI 0), .int (nI 1)])), (q_11, .inl (kA 0, 400, .inl (fun _ => 0))), (t_11, .inr (4, [.ref r_14, .double 4620693217682128896])), (r_14, .inr (1, [.ref q_12, .int (nI 0), .int (nI 1)])), (q_12, .inl (kA 0, 400, .inl (fun _ => 0))), (t_12, .inr (4, [.ref r_15, .double 4620693217682128896])), (r_15, .inr (1, [.ref q_13, .int (nI 0), .int (nI 1)])), (q_13, .inl (kA 0, 400, .inl (fun _ => 0)))] ++ []) := pm_places 94 [2, 3, 4, 5, 6, 7, 8, 9, 10, 11, 12, 13, 14, 15, 16, 17, 18, 19, 20, 21, 22, 23, 24, 25, 26, 27, 28, 29, 30, 31, 32, 33, 34, 35, 36, 37, 38, 39, 40, 41, 42, 43, 44, 45, 46, 47, 48, 49, 50, 51, 52, 53, 54, 55, 56, 57, 58, 59, 60, 61, 62, 63, 64, 65, 66, 67, 68, 69, 70, 0, 1, 71, 72, 73, 74, 75, 76, 77, 78, 79, 80, 81, 82, 83, 84, 85, 86, 87, 88, 89, 90, 91, 92, 93] [] (by decide +kernel) rfl (by subst hB9; subst ha9; rfl) rfl
  rw [List.append_nil] at hpm
  have hP : va_P D vwCl (wB kA B) H := vP_perm hpm.symm hP
  have hD : va_D A (wB kA B) := vD_perm hpm.symm hD
  have hbe : B.2 0 = q_1 := by rw [hB9]; rfl
  have hL : LI B 0 := by rw [hB9]; exact LI_new _ hcd _ _
  have hI := hL.1
  have hM5 : B.2 5 = 0 := by rw [hB9]; rfl
  have hM6 : B.2 6 = 0 := by rw [hB9]; rfl
  clear hgg hpm hB9 ha9
  refine lv_aload_n hx hb dL_bench_32 rfl (lv_at hl 1 rfl) ?_
  refine lv_iconst (v := nI 0) hx hb dL_bench_33 (by decide) ?_
  have hF := chF0 hS hA
  refine va_calli (va_runS (As := [.ref z, .int (nI 0)]) (rest := []) ⟨hx, hb, hml, hown, hts⟩ (c_L_cell l D kA z 0 (by first | assumption | omega) _) (va_cwS 2 hts h_L_bench_2 rfl rfl rfl (by decide +kernel) ⟨Nat.le_of_ble_eq_true rfl, Nat.le_of_ble_eq_true rfl⟩) (fPs0 hK hS hG hF) rfl rfl hl.1 rfl (lv_room (Nat.le_of_ble_eq_true rfl)) dL_bench_34 ⟨Nat.le_of_ble_eq_true rfl, Nat.le_of_ble_eq_true rfl⟩) hS (fun q _ h => hF q h) hF (fun r_17 w1 t H locs ht hvm hw hB hz1 hk1 hS => ?_)
  obtain ⟨hP, hD⟩ := chJ0 hP hD hk1 hF ht hB
  try dsimp only at hw
  obtain ⟨v_5, rfl, e_5⟩ := hw
  rw [List.append_nil] at hP hD
  replace e_5 := e_5.symm
  subst e_5
  have hP : va_P D vwCl (wB kA B) H := hP
  have hD : va_D A (wB kA B) := hD
  refine lv_iconst (v := nI 4) hx hb dL_bench_37 (by decide) ?_
  have hF := chF0 hS hA
  refine va_calli (va_runS (As := [.int v_5, .int (nI 4)]) (rest := []) ⟨hx, hb, hml, hown, hts⟩ (c_L_below l D kA z v_5 4 (by first | assumption | omega) (by first | assumption | omega) _) (va_cwS 2 hts h_L_bench_3 rfl rfl rfl (by decide +kernel) ⟨Nat.le_of_ble_eq_true rfl, Nat.le_of_ble_eq_true rfl⟩) (fPs0 hK hS hG hF) rfl rfl hl.1 rfl (lv_room (Nat.le_of_ble_eq_true rfl)) dL_bench_38 ⟨Nat.le_of_ble_eq_true rfl, Nat.le_of_ble_eq_true rfl⟩) hS (fun q _ h => hF q h) hF (fun r_18 w1 t H locs ht hvm hw hB hz1 hk1 hS => ?_)
  obtain ⟨hP, hD⟩ := chJ0 hP hD hk1 hF ht hB
  try dsimp only at hw
  obtain ⟨k_1, rfl, e_6, hkq_1⟩ := hw
  rw [List.append_nil] at hP hD
  replace e_6 := e_6.symm
  subst e_6
  have hP : va_P D vwCl (wB kA B) H := hP
  have hD : va_D A (wB kA B) := hD
  have jn_61 : ∀ (B : BS) (_ : True), (B.2 0 = q_1) → (LI B (0)) → (B.2 5 = 0) → (B.2 6 = 0) → ∀ (H : Heap) (locs : List Loc) (ls : Array Slot), va_P D vwCl (wB kA B) H → va_D A (wB kA B) → va_S A s.heap H locs → lv_has ls 5 [(2, .ref q_1), (0, .ref z), (1, .int (nI cd))] → W p l e ({ frames := 9, cells := 110, slots := 14000, locals := 215 }) s m args below meth c H locs (0 + 1 + 1 + 23 + 23 + 23 + 23) (0 + 7 + 4 + 3418 + 3418 + 3418 + 3418) (MQ below (va_Qr (fun u : Nat × va_W => (fun r w => ∃ (B : BS), w = (wB kA B) ∧ (B.2 0 = r) ∧ (LI B 4) ∧ (B.2 5 = 0) ∧ (B.2 6 = 0)) u.1 u.2) (fun u a t => u.1 = a ∧ fB D (tyL kA) A u.2 t) A) args s 110 14000 A) (F0 m 61 ls []) := by
    clear hP hD hS hl
    intro B _ hbe hL hM5 hM6 H locs ls hP hD hS hl
    have hI := hL.1
    refine lv_iconst (v := nI 0) hx hb dL_bench_61 (by decide) ?_
    refine lv_istore_n (lv' := [(3, .int (nI 0)), (2, .ref q_1), (0, .ref z), (1, .int (nI cd))]) hx hb dL_bench_62 rfl hl (by decide) rfl (fun ls hl => ?_)
    have lp_63 : ∀ (n_63 : Nat) (i : Nat) (B : BS), 7 - i < n_63 → (i ≤ 7) → (B.2 0 = q_1) → (LI B (0)) → (B.2 5 = 0) → (B.2 6 = 0) → ∀ (H : Heap) (locs : List Loc) (ls : Array Slot), va_P D vwCl (wB kA B) H → va_D A (wB kA B) → va_S A s.heap H locs → lv_has ls 5 [(3, .int (nI i)), (2, .ref q_1), (0, .ref z), (1, .int (nI cd))] → W p l e ({ frames := 9, cells := 110, slots := 14000, locals := 215 }) s m args below meth c H locs (94 + i) (13683 + 6 * i) (MQ below (va_Qr (fun u : Nat × va_W => (fun r w => ∃ (B : BS), w = (wB kA B) ∧ (B.2 0 = r) ∧ (LI B 4) ∧ (B.2 5 = 0) ∧ (B.2 6 = 0)) u.1 u.2) (fun u a t => u.1 = a ∧ fB D (tyL kA) A u.2 t) A) args s 110 14000 A) (F0 m 63 ls []) := by
      clear hP hD hS hl
      intro n_63
      induction n_63 with
      | zero =>
        intro i B hm_63 hi7 hbe hL hM5 hM6
        exact absurd hm_63 (by omega)
      | succ n_63 ih_63 =>
        intro i B hm_63 hi7 hbe hL hM5 hM6 H locs ls hP hD hS hl
        have hI := hL.1
        refine lv_iload_n hx hb dL_bench_63 rfl (lv_at hl 0 rfl) ?_
        refine lv_iconst (v := nI 3) hx hb dL_bench_64 (by decide) ?_
        refine lv_aload_n hx hb dL_bench_65 rfl (lv_at hl 2 rfl) ?_
        refine lv_iconst (v := nI 0) hx hb dL_bench_66 (by decide) ?_
        have hF := chF0 hS hA
        refine va_calli (va_runS (As := [.ref z, .int (nI 0)]) (rest := [.int (nI 3), .int (nI i)]) ⟨hx, hb, hml, hown, hts⟩ (c_L_cell l D kA z 0 (by first | assumption | omega) _) (va_cwS 2 hts h_L_bench_2 rfl rfl rfl (by decide +kernel) ⟨Nat.le_of_ble_eq_true rfl, Nat.le_of_ble_eq_true rfl⟩) (fPs0 hK hS hG hF) rfl rfl hl.1 rfl (lv_room (Nat.le_of_ble_eq_true rfl)) dL_bench_67 ⟨(Nat.le_trans (Nat.add_le_add_right (show 94 + i ≤ 110 by omega) _) (Nat.le_of_ble_eq_true rfl)), (Nat.le_trans (Nat.add_le_add_right (show 13683 + 6 * i ≤ 14000 by omega) _) (Nat.le_of_ble_eq_true rfl))⟩) hS (fun q _ h => hF q h) hF (fun r_19 w1 t H locs ht hvm hw hB hz1 hk1 hS => ?_)
        obtain ⟨hP, hD⟩ := chJ0 hP hD hk1 hF ht hB
        try dsimp only at hw
        obtain ⟨v_6, rfl, e_7⟩ := hw
        rw [List.append_nil] at hP hD
        replace e_7 := e_7.symm
        subst e_7
        have hP : va_P D vwCl (wB kA B) H := hP
        have hD : va_D A (wB kA B) := hD
        refine lv_iconst (v := nI 3) hx hb dL_bench_70 (by decide) ?_
        refine lv_ishr hx hb dL_bench_71 ?_
        refine lv_iconst (v := nI 4) hx hb dL_bench_72 (by decide) ?_
        have hF := chF0 hS hA
        refine va_calli (va_runS (As := [.int (v_6 >>> ((nI 3) &&& 31)), .int (nI 4)]) (rest := [.int (nI 3), .int (nI i)]) ⟨hx, hb, hml, hown, hts⟩ (c_L_below l D kA z (v_6 >>> ((nI 3) &&& 31)) 4 (by first | assumption | omega) (by first | assumption | omega) _) (va_cwS 2 hts h_L_bench_3 rfl rfl rfl (by decide +kernel) ⟨Nat.le_of_ble_eq_true rfl, Nat.le_of_ble_eq_true rfl⟩) (fPs0 hK hS hG hF) rfl rfl hl.1 rfl (lv_room (Nat.le_of_ble_eq_true rfl)) dL_bench_73 ⟨(Nat.le_trans (Nat.add_le_add_right (show 94 + i ≤ 110 by omega) _) (Nat.le_of_ble_eq_true rfl)), (Nat.le_trans (Nat.add_le_add_right (show 13683 + 6 * i ≤ 14000 by omega) _) (Nat.le_of_ble_eq_true rfl))⟩) hS (fun q _ h => hF q h) hF (fun r_20 w1 t H locs ht hvm hw hB hz1 hk1 hS => ?_)
        obtain ⟨hP, hD⟩ := chJ0 hP hD hk1 hF ht hB
        try dsimp only at hw
        obtain ⟨k_2, rfl, e_8, hkq_2⟩ := hw
        rw [List.append_nil] at hP hD
        replace e_8 := e_8.symm
        subst e_8
        have hP : va_P D vwCl (wB kA B) H := hP
        have hD : va_D A (wB kA B) := hD
        refine lv_iadd hx hb dL_bench_76 ?_
        rw [nI_add 3 k_2]
        refine lv_icmp_ge (tgt := 97) hx hb dL_bench_77 (by decide) (fun c77 => ?_) (fun c77 => ?_)
        ·
          rw [qle (a := (3 + k_2)) (b := i) (by omega) (by omega)] at c77
          refine W.widen (k := 110) (n := 14000) (show 94 + i ≤ 110 by omega) (show 13683 + 6 * i ≤ 14000 by omega) ?_
          have hn4 := (hI.1 0 (by decide)).2.2.2.1
          refine lv_aload_n hx hb dL_bench_97 rfl (lv_at hl 1 rfl) ?_
          refine lv_iconst (v := nI 0) hx hb dL_bench_98 (by decide) ?_
          refine lv_iconst (v := nI 1) hx hb dL_bench_99 (by decide) ?_
          have hF := chF [] hD hS hA
          refine va_calli (va_runV (As := [.int (nI 0), .int (nI 1)]) (rest := []) ⟨hx, hb, hml, hown, hts⟩ (c_X6_ofTrack_B1 l D kA z B q_1 0 (by first | assumption | omega) (by first | assumption | omega) (by first | assumption | omega) _) (cwV 2 hts h_L_bench_4 rfl rfl rfl (by decide +kernel) ⟨Nat.le_of_ble_eq_true rfl, Nat.le_of_ble_eq_true rfl⟩) (fPvB [] (hbe) hK hP hD hS hG hF) rfl rfl hl.1 rfl (lv_room (Nat.le_of_ble_eq_true rfl)) dL_bench_100 ⟨Nat.le_of_ble_eq_true rfl, Nat.le_of_ble_eq_true rfl⟩) hS (fun q _ h => hF q h) hF (fun r_21 w1 t H locs ht hvm hw hB hz1 hk1 hS => ?_)
          obtain ⟨hP, hD⟩ := chJ [] hP hD hk1 hF ht hB
          try dsimp only at hw
          obtain ⟨rfl, e_9⟩ := hw
          replace e_9 := e_9.symm
          subst e_9
          have hP : va_P D vwCl (wB kA B) H := hP
          have hD : va_D A (wB kA B) := hD
          refine lv_istore_n (lv' := [(3, .int (nI (nn (B.1 0) 5))), (2, .ref q_1), (0, .ref z), (1, .int (nI cd))]) hx hb dL_bench_103 rfl hl (by decide) rfl (fun ls hl => ?_)
          refine lv_iload_n hx hb dL_bench_104 rfl (lv_at hl 0 rfl) ?_
          have jn_114 : ∀ (B : BS) (_ : True), (B.2 0 = q_1) → (LI B (0)) → (B.2 5 = 0) → (B.2 6 = 0) → (0 < nn (B.1 0) 5) → ∀ (H : Heap) (locs : List Loc) (ls : Array Slot), va_P D vwCl (wB kA B) H → va_D A (wB kA B) → va_S A s.heap H locs → lv_has ls 5 [(2, .ref q_1), (0, .ref z), (1, .int (nI cd))] → W p l e ({ frames := 9, cells := 110, slots := 14000, locals := 215 }) s m args below meth c H locs 110 14000 (MQ below (va_Qr (fun u : Nat × va_W => (fun r w => ∃ (B : BS), w = (wB kA B) ∧ (B.2 0 = r) ∧ (LI B 4) ∧ (B.2 5 = 0) ∧ (B.2 6 = 0)) u.1 u.2) (fun u a t => u.1 = a ∧ fB D (tyL kA) A u.2 t) A) args s 110 14000 A) (F0 m 114 ls []) := by
            clear hP hD hS hl
            intro B _ hbe hL hM5 hM6 hn0 H locs ls hP hD hS hl
            have hI := hL.1
            have hn4 := (hI.1 0 (by decide)).2.2.2.1
            refine lv_iconst (v := nI 0) hx hb dL_bench_114 (by decide) ?_
            refine lv_istore (lv' := [(4, .int (nI 0)), (2, .ref q_1), (0, .ref z), (1, .int (nI cd))]) hx hb dL_bench_115 hl (by decide) rfl (fun ls hl => ?_)
            have lp_117 : ∀ (n_117 : Nat) (i : Nat) (B : BS), 3 - i < n_117 → (i ≤ 3) → (B.2 0 = q_1) → (LI B (0)) → (B.2 5 = 0) → (B.2 6 = 0) → (0 < nn (B.1 0) 5) → ∀ (H : Heap) (locs : List Loc) (ls : Array Slot), va_P D vwCl (wB kA B) H → va_D A (wB kA B) → va_S A s.heap H locs → lv_has ls 5 [(4, .int (nI i)), (2, .ref q_1), (0, .ref z), (1, .int (nI cd))] → W p l e ({ frames := 9, cells := 110, slots := 14000, locals := 215 }) s m args below meth c H locs 110 14000 (MQ below (va_Qr (fun u : Nat × va_W => (fun r w => ∃ (B : BS), w = (wB kA B) ∧ (B.2 0 = r) ∧ (LI B 4) ∧ (B.2 5 = 0) ∧ (B.2 6 = 0)) u.1 u.2) (fun u a t => u.1 = a ∧ fB D (tyL kA) A u.2 t) A) args s 110 14000 A) (F0 m 117 ls []) := by
              clear hP hD hS hl
              intro n_117
              induction n_117 with
              | zero =>
                intro i B hm_117 hi3 hbe hL hM5 hM6 hn0
                exact absurd hm_117 (by omega)
              | succ n_117 ih_117 =>
                intro i B hm_117 hi3 hbe hL hM5 hM6 hn0 H locs ls hP hD hS hl
                have hI := hL.1
                have hn4 := (hI.1 0 (by decide)).2.2.2.1
                refine lv_iload hx hb dL_bench_117 (lv_at hl 0 rfl) ?_
                refine lv_aload_n hx hb dL_bench_119 rfl (lv_at hl 2 rfl) ?_
                refine lv_bipush (v := nI 9) hx hb dL_bench_120 (by decide) ?_
                have hF := chF0 hS hA
                refine va_calli (va_runS (As := [.ref z, .int (nI 9)]) (rest := [.int (nI i)]) ⟨hx, hb, hml, hown, hts⟩ (c_L_cell l D kA z 9 (by first | assumption | omega) _) (va_cwS 2 hts h_L_bench_2 rfl rfl rfl (by decide +kernel) ⟨Nat.le_of_ble_eq_true rfl, Nat.le_of_ble_eq_true rfl⟩) (fPs0 hK hS hG hF) rfl rfl hl.1 rfl (lv_room (Nat.le_of_ble_eq_true rfl)) dL_bench_122 ⟨Nat.le_of_ble_eq_true rfl, Nat.le_of_ble_eq_true rfl⟩) hS (fun q _ h => hF q h) hF (fun r_22 w1 t H locs ht hvm hw hB hz1 hk1 hS => ?_)
                obtain ⟨hP, hD⟩ := chJ0 hP hD hk1 hF ht hB
                try dsimp only at hw
                obtain ⟨v_7, rfl, e_10⟩ := hw
                rw [List.append_nil] at hP hD
                replace e_10 := e_10.symm
                subst e_10
                have hP : va_P D vwCl (wB kA B) H := hP
                have hD : va_D A (wB kA B) := hD
                refine lv_iconst (v := nI 3) hx hb dL_bench_125 (by decide) ?_
                have hF := chF0 hS hA
                refine va_calli (va_runS (As := [.int v_7, .int (nI 3)]) (rest := [.int (nI i)]) ⟨hx, hb, hml, hown, hts⟩ (c_L_below l D kA z v_7 3 (by first | assumption | omega) (by first | assumption | omega) _) (va_cwS 2 hts h_L_bench_3 rfl rfl rfl (by decide +kernel) ⟨Nat.le_of_ble_eq_true rfl, Nat.le_of_ble_eq_true rfl⟩) (fPs0 hK hS hG hF) rfl rfl hl.1 rfl (lv_room (Nat.le_of_ble_eq_true rfl)) dL_bench_126 ⟨Nat.le_of_ble_eq_true rfl, Nat.le_of_ble_eq_true rfl⟩) hS (fun q _ h => hF q h) hF (fun r_23 w1 t H locs ht hvm hw hB hz1 hk1 hS => ?_)
                obtain ⟨hP, hD⟩ := chJ0 hP hD hk1 hF ht hB
                try dsimp only at hw
                obtain ⟨k_3, rfl, e_11, hkq_3⟩ := hw
                rw [List.append_nil] at hP hD
                replace e_11 := e_11.symm
                subst e_11
                have hP : va_P D vwCl (wB kA B) H := hP
                have hD : va_D A (wB kA B) := hD
                refine lv_icmp_ge (tgt := 163) hx hb dL_bench_129 (by decide) (fun c129 => ?_) (fun c129 => ?_)
                ·
                  rw [qle (a := k_3) (b := i) (by omega) (by omega)] at c129
                  refine lv_iconst (v := nI 0) hx hb dL_bench_163 (by decide) ?_
                  refine lv_istore (lv' := [(4, .int (nI 0)), (2, .ref q_1), (0, .ref z), (1, .int (nI cd))]) hx hb dL_bench_164 hl (by decide) rfl (fun ls hl => ?_)
                  have lp_166 : ∀ (n_166 : Nat) (i : Nat) (B : BS), 3 - i < n_166 → (i ≤ 3) → (B.2 0 = q_1) → (LI B (i)) → (B.2 5 = 0) → (B.2 6 = 0) → (0 < nn (B.1 0) 5) → ∀ (H : Heap) (locs : List Loc) (ls : Array Slot), va_P D vwCl (wB kA B) H → va_D A (wB kA B) → va_S A s.heap H locs → lv_has ls 5 [(4, .int (nI i)), (2, .ref q_1), (0, .ref z), (1, .int (nI cd))] → W p l e ({ frames := 9, cells := 110, slots := 14000, locals := 215 }) s m args below meth c H locs 110 14000 (MQ below (va_Qr (fun u : Nat × va_W => (fun r w => ∃ (B : BS), w = (wB kA B) ∧ (B.2 0 = r) ∧ (LI B 4) ∧ (B.2 5 = 0) ∧ (B.2 6 = 0)) u.1 u.2) (fun u a t => u.1 = a ∧ fB D (tyL kA) A u.2 t) A) args s 110 14000 A) (F0 m 166 ls []) := by
                    clear hP hD hS hl
                    intro n_166
                    induction n_166 with
                    | zero =>
                      intro i B hm_166 hi3 hbe hL hM5 hM6 hn0
                      exact absurd hm_166 (by omega)
                    | succ n_166 ih_166 =>
                      intro i B hm_166 hi3 hbe hL hM5 hM6 hn0 H locs ls hP hD hS hl
                      have hI := hL.1
                      have hn4 := (hI.1 0 (by decide)).2.2.2.1
                      refine lv_iload hx hb dL_bench_166 (lv_at hl 0 rfl) ?_
                      refine lv_iconst (v := nI 1) hx hb dL_bench_168 (by decide) ?_
                      refine lv_aload_n hx hb dL_bench_169 rfl (lv_at hl 2 rfl) ?_
                      refine lv_bipush (v := nI 13) hx hb dL_bench_170 (by decide) ?_
                      have hF := chF0 hS hA
                      refine va_calli (va_runS (As := [.ref z, .int (nI 13)]) (rest := [.int (nI 1), .int (nI i)]) ⟨hx, hb, hml, hown, hts⟩ (c_L_cell l D kA z 13 (by first | assumption | omega) _) (va_cwS 2 hts h_L_bench_2 rfl rfl rfl (by decide +kernel) ⟨Nat.le_of_ble_eq_true rfl, Nat.le_of_ble_eq_true rfl⟩) (fPs0 hK hS hG hF) rfl rfl hl.1 rfl (lv_room (Nat.le_of_ble_eq_true rfl)) dL_bench_172 ⟨Nat.le_of_ble_eq_true rfl, Nat.le_of_ble_eq_true rfl⟩) hS (fun q _ h => hF q h) hF (fun r_24 w1 t H locs ht hvm hw hB hz1 hk1 hS => ?_)
                      obtain ⟨hP, hD⟩ := chJ0 hP hD hk1 hF ht hB
                      try dsimp only at hw
                      obtain ⟨v_8, rfl, e_12⟩ := hw
                      rw [List.append_nil] at hP hD
                      replace e_12 := e_12.symm
                      subst e_12
                      have hP : va_P D vwCl (wB kA B) H := hP
                      have hD : va_D A (wB kA B) := hD
                      refine lv_iconst (v := nI 3) hx hb dL_bench_175 (by decide) ?_
                      have hF := chF0 hS hA
                      refine va_calli (va_runS (As := [.int v_8, .int (nI 3)]) (rest := [.int (nI 1), .int (nI i)]) ⟨hx, hb, hml, hown, hts⟩ (c_L_below l D kA z v_8 3 (by first | assumption | omega) (by first | assumption | omega) _) (va_cwS 2 hts h_L_bench_3 rfl rfl rfl (by decide +kernel) ⟨Nat.le_of_ble_eq_true rfl, Nat.le_of_ble_eq_true rfl⟩) (fPs0 hK hS hG hF) rfl rfl hl.1 rfl (lv_room (Nat.le_of_ble_eq_true rfl)) dL_bench_176 ⟨Nat.le_of_ble_eq_true rfl, Nat.le_of_ble_eq_true rfl⟩) hS (fun q _ h => hF q h) hF (fun r_25 w1 t H locs ht hvm hw hB hz1 hk1 hS => ?_)
                      obtain ⟨hP, hD⟩ := chJ0 hP hD hk1 hF ht hB
                      try dsimp only at hw
                      obtain ⟨k_4, rfl, e_13, hkq_4⟩ := hw
                      rw [List.append_nil] at hP hD
                      replace e_13 := e_13.symm
                      subst e_13
                      have hP : va_P D vwCl (wB kA B) H := hP
                      have hD : va_D A (wB kA B) := hD
                      refine lv_iadd hx hb dL_bench_179 ?_
                      rw [nI_add 1 k_4]
                      refine lv_icmp_ge (tgt := 269) hx hb dL_bench_180 (by decide) (fun c180 => ?_) (fun c180 => ?_)
                      ·
                        rw [qle (a := (1 + k_4)) (b := i) (by omega) (by omega)] at c180
                        refine lv_aload_n hx hb dL_bench_269 rfl (lv_at hl 1 rfl) ?_
                        exact endR (post := fun r w => ∃ (B : BS), w = (wB kA B) ∧ (B.2 0 = r) ∧ (LI B 4) ∧ (B.2 5 = 0) ∧ (B.2 6 = 0)) hx hb hr (Or.inl ⟨_, rfl⟩) hlocks hK hP hD hS (⟨B, rfl, hbe, hL.le (by omega), hM5, hM6⟩) (Nat.le_of_ble_eq_true rfl) (Nat.le_of_ble_eq_true rfl) dL_bench_270
                      ·
                        rw [qle (a := (1 + k_4)) (b := i) (by omega) (by omega)] at c180
                        refine lv_aload_n hx hb dL_bench_183 rfl (lv_at hl 2 rfl) ?_
                        refine lv_bipush (v := nI 14) hx hb dL_bench_184 (by decide) ?_
                        refine lv_iload hx hb dL_bench_186 (lv_at hl 0 rfl) ?_
                        refine lv_iadd hx hb dL_bench_188 ?_
                        rw [nI_add 14 i]
                        have hF := chF0 hS hA
                        refine va_calli (va_runS (As := [.ref z, .int (nI (14 + i))]) (rest := []) ⟨hx, hb, hml, hown, hts⟩ (c_L_cell l D kA z (14 + i) (by first | assumption | omega) _) (va_cwS 2 hts h_L_bench_2 rfl rfl rfl (by decide +kernel) ⟨Nat.le_of_ble_eq_true rfl, Nat.le_of_ble_eq_true rfl⟩) (fPs0 hK hS hG hF) rfl rfl hl.1 rfl (lv_room (Nat.le_of_ble_eq_true rfl)) dL_bench_189 ⟨Nat.le_of_ble_eq_true rfl, Nat.le_of_ble_eq_true rfl⟩) hS (fun q _ h => hF q h) hF (fun r_26 w1 t H locs ht hvm hw hB hz1 hk1 hS => ?_)
                        obtain ⟨hP, hD⟩ := chJ0 hP hD hk1 hF ht hB
                        try dsimp only at hw
                        obtain ⟨v_9, rfl, e_14⟩ := hw
                        rw [List.append_nil] at hP hD
                        replace e_14 := e_14.symm
                        subst e_14
                        have hP : va_P D vwCl (wB kA B) H := hP
                        have hD : va_D A (wB kA B) := hD
                        refine lv_iconst (v := nI 4) hx hb dL_bench_192 (by decide) ?_
                        have hF := chF0 hS hA
                        refine va_calli (va_runS (As := [.int v_9, .int (nI 4)]) (rest := []) ⟨hx, hb, hml, hown, hts⟩ (c_L_below l D kA z v_9 4 (by first | assumption | omega) (by first | assumption | omega) _) (va_cwS 2 hts h_L_bench_3 rfl rfl rfl (by decide +kernel) ⟨Nat.le_of_ble_eq_true rfl, Nat.le_of_ble_eq_true rfl⟩) (fPs0 hK hS hG hF) rfl rfl hl.1 rfl (lv_room (Nat.le_of_ble_eq_true rfl)) dL_bench_193 ⟨Nat.le_of_ble_eq_true rfl, Nat.le_of_ble_eq_true rfl⟩) hS (fun q _ h => hF q h) hF (fun r_27 w1 t H locs ht hvm hw hB hz1 hk1 hS => ?_)
                        obtain ⟨hP, hD⟩ := chJ0 hP hD hk1 hF ht hB
                        try dsimp only at hw
                        obtain ⟨k_5, rfl, e_15, hkq_5⟩ := hw
                        rw [List.append_nil] at hP hD
                        replace e_15 := e_15.symm
                        subst e_15
                        have hP : va_P D vwCl (wB kA B) H := hP
                        have hD : va_D A (wB kA B) := hD
                        have jn_233 : ∀ (B : BS) (_ : True), (B.2 0 = q_1) → (LI B (i)) → (B.2 5 = 0) → (B.2 6 = 0) → (0 < nn (B.1 0) 5) → ∀ (H : Heap) (locs : List Loc) (ls : Array Slot), va_P D vwCl (wB kA B) H → va_D A (wB kA B) → va_S A s.heap H locs → lv_has ls 5 [(4, .int (nI i)), (2, .ref q_1), (0, .ref z), (1, .int (nI cd))] → W p l e ({ frames := 9, cells := 110, slots := 14000, locals := 215 }) s m args below meth c H locs 110 14000 (MQ below (va_Qr (fun u : Nat × va_W => (fun r w => ∃ (B : BS), w = (wB kA B) ∧ (B.2 0 = r) ∧ (LI B 4) ∧ (B.2 5 = 0) ∧ (B.2 6 = 0)) u.1 u.2) (fun u a t => u.1 = a ∧ fB D (tyL kA) A u.2 t) A) args s 110 14000 A) (F0 m 233 ls []) := by
                          clear hP hD hS hl
                          intro B _ hbe hL hM5 hM6 hn0 H locs ls hP hD hS hl
                          have hI := hL.1
                          have hn4 := (hI.1 0 (by decide)).2.2.2.1
                          refine lv_aload_n hx hb dL_bench_233 rfl (lv_at hl 1 rfl) ?_
                          refine lv_iconst (v := nI 0) hx hb dL_bench_234 (by decide) ?_
                          have hF := chF [] hD hS hA
                          refine va_calli (va_runV (As := [.int (nI 0)]) (rest := []) ⟨hx, hb, hml, hown, hts⟩ (c_X6_read_B l D kA z B q_1 0 (by first | assumption | omega) (by first | assumption | omega) (by first | assumption | omega) (by first | assumption | omega) _) (cwV 1 hts h_L_bench_5 rfl rfl rfl (by decide +kernel) ⟨Nat.le_of_ble_eq_true rfl, Nat.le_of_ble_eq_true rfl⟩) (fPvB [] (hbe) hK hP hD hS hG hF) rfl rfl hl.1 rfl (lv_room (Nat.le_of_ble_eq_true rfl)) dL_bench_235 ⟨Nat.le_of_ble_eq_true rfl, Nat.le_of_ble_eq_true rfl⟩) hS (fun q _ h => hF q h) hF (fun r_28 w1 t H locs ht hvm hw hB hz1 hk1 hS => ?_)
                          obtain ⟨hP, hD⟩ := chJ [] hP hD hk1 hF ht hB
                          try dsimp only at hw
                          obtain ⟨S_1, dw_1, rfl, e_16, hdw_1, q_14⟩ := hw
                          replace e_16 := e_16.symm
                          subst e_16
                          have hP : va_P D vwCl (wB kA (uP B.1 0 S_1, uP (uP B.2 3 dw_1) 4 (B.2 4 + 1))) H := hP
                          have hD : va_D A (wB kA (uP B.1 0 S_1, uP (uP B.2 3 dw_1) 4 (B.2 4 + 1))) := hD
                          have hL := LI_R hL (by decide) q_14.1 hdw_1 q_14.2.2.2.1
                          have hI := hL.1
                          refine lv_pop hx hb dL_bench_238 rfl ?_
                          refine lv_aload_n hx hb dL_bench_239 rfl (lv_at hl 2 rfl) ?_
                          refine lv_bipush (v := nI 14) hx hb dL_bench_240 (by decide) ?_
                          refine lv_iload hx hb dL_bench_242 (lv_at hl 0 rfl) ?_
                          refine lv_iadd hx hb dL_bench_244 ?_
                          rw [nI_add 14 i]
                          have hF := chF0 hS hA
                          refine va_calli (va_runS (As := [.ref z, .int (nI (14 + i))]) (rest := []) ⟨hx, hb, hml, hown, hts⟩ (c_L_cell l D kA z (14 + i) (by first | assumption | omega) _) (va_cwS 2 hts h_L_bench_2 rfl rfl rfl (by decide +kernel) ⟨Nat.le_of_ble_eq_true rfl, Nat.le_of_ble_eq_true rfl⟩) (fPs0 hK hS hG hF) rfl rfl hl.1 rfl (lv_room (Nat.le_of_ble_eq_true rfl)) dL_bench_245 ⟨Nat.le_of_ble_eq_true rfl, Nat.le_of_ble_eq_true rfl⟩) hS (fun q _ h => hF q h) hF (fun r_29 w1 t H locs ht hvm hw hB hz1 hk1 hS => ?_)
                          obtain ⟨hP, hD⟩ := chJ0 hP hD hk1 hF ht hB
                          try dsimp only at hw
                          obtain ⟨v_10, rfl, e_17⟩ := hw
                          rw [List.append_nil] at hP hD
                          replace e_17 := e_17.symm
                          subst e_17
                          have hP : va_P D vwCl (wB kA (uP B.1 0 S_1, uP (uP B.2 3 dw_1) 4 (B.2 4 + 1))) H := hP
                          have hD : va_D A (wB kA (uP B.1 0 S_1, uP (uP B.2 3 dw_1) 4 (B.2 4 + 1))) := hD
                          refine lv_iconst (v := nI 5) hx hb dL_bench_248 (by decide) ?_
                          refine lv_ishr hx hb dL_bench_249 ?_
                          refine lv_iconst (v := nI 2) hx hb dL_bench_250 (by decide) ?_
                          have hF := chF0 hS hA
                          refine va_calli (va_runS (As := [.int (v_10 >>> ((nI 5) &&& 31)), .int (nI 2)]) (rest := []) ⟨hx, hb, hml, hown, hts⟩ (c_L_below l D kA z (v_10 >>> ((nI 5) &&& 31)) 2 (by first | assumption | omega) (by first | assumption | omega) _) (va_cwS 2 hts h_L_bench_3 rfl rfl rfl (by decide +kernel) ⟨Nat.le_of_ble_eq_true rfl, Nat.le_of_ble_eq_true rfl⟩) (fPs0 hK hS hG hF) rfl rfl hl.1 rfl (lv_room (Nat.le_of_ble_eq_true rfl)) dL_bench_251 ⟨Nat.le_of_ble_eq_true rfl, Nat.le_of_ble_eq_true rfl⟩) hS (fun q _ h => hF q h) hF (fun r_30 w1 t H locs ht hvm hw hB hz1 hk1 hS => ?_)
                          obtain ⟨hP, hD⟩ := chJ0 hP hD hk1 hF ht hB
                          try dsimp only at hw
                          obtain ⟨k_6, rfl, e_18, hkq_6⟩ := hw
                          rw [List.append_nil] at hP hD
                          replace e_18 := e_18.symm
                          subst e_18
                          have hP : va_P D vwCl (wB kA (uP B.1 0 S_1, uP (uP B.2 3 dw_1) 4 (B.2 4 + 1))) H := hP
                          have hD : va_D A (wB kA (uP B.1 0 S_1, uP (uP B.2 3 dw_1) 4 (B.2 4 + 1))) := hD
                          have jn_263 : ∀ (B : BS) (_ : True), (B.2 0 = q_1) → (LI B (i + 1)) → (B.2 5 = 0) → (B.2 6 = 0) → (0 < nn (B.1 0) 5) → ∀ (H : Heap) (locs : List Loc) (ls : Array Slot), va_P D vwCl (wB kA B) H → va_D A (wB kA B) → va_S A s.heap H locs → lv_has ls 5 [(4, .int (nI i)), (2, .ref q_1), (0, .ref z), (1, .int (nI cd))] → W p l e ({ frames := 9, cells := 110, slots := 14000, locals := 215 }) s m args below meth c H locs 110 14000 (MQ below (va_Qr (fun u : Nat × va_W => (fun r w => ∃ (B : BS), w = (wB kA B) ∧ (B.2 0 = r) ∧ (LI B 4) ∧ (B.2 5 = 0) ∧ (B.2 6 = 0)) u.1 u.2) (fun u a t => u.1 = a ∧ fB D (tyL kA) A u.2 t) A) args s 110 14000 A) (F0 m 263 ls []) := by
                            clear hP hD hS hl
                            intro B _ hbe hL hM5 hM6 hn0 H locs ls hP hD hS hl
                            have hI := hL.1
                            have hn4 := (hI.1 0 (by decide)).2.2.2.1
                            refine lv_iinc (v := nI (i + 1)) (lv' := [(4, .int (nI (i + 1))), (2, .ref q_1), (0, .ref z), (1, .int (nI cd))]) hx hb dL_bench_263 hl (k := 0) rfl (nI_add i 1) (by decide) rfl (fun ls hl => ?_)
                            refine lv_goto (tgt := 166) hx hb dL_bench_266 (by decide) ?_
                            exact ih_166 (i + 1) B (by omega) (by first | assumption | omega | rfl) hbe hL hM5 hM6 hn0 _ _ _ hP hD hS (lv_sub hl [0, 1, 2, 3] rfl)
                          refine lv_if_ne (tgt := 263) hx hb dL_bench_254 (by decide) (fun c254 => ?_) (fun c254 => ?_)
                          ·
                            rw [qz (a := k_6) (by omega)] at c254
                            exact jn_263 (uP B.1 0 S_1, uP (uP B.2 3 dw_1) 4 (B.2 4 + 1)) trivial hbe hL hM5 hM6 (by rw [show nn (((uP B.1 0 S_1, uP (uP B.2 3 dw_1) 4 (B.2 4 + 1))).1 0) 5 = _ from congrFun (congrArg nn (uP_at _ _ _)) 5, q_14.2.2.1]; exact hn0) _ _ _ hP hD hS (lv_sub hl [0, 1, 2, 3] rfl)
                          ·
                            rw [qz (a := k_6) (by omega)] at c254
                            refine lv_aload_n hx hb dL_bench_257 rfl (lv_at hl 1 rfl) ?_
                            refine lv_iconst (v := nI 0) hx hb dL_bench_258 (by decide) ?_
                            have hF := chF [] hD hS hA
                            refine va_calli (va_runV (As := [.int (nI 0)]) (rest := []) ⟨hx, hb, hml, hown, hts⟩ (c_X6_clean_B l D kA z (uP B.1 0 S_1, uP (uP B.2 3 dw_1) 4 (B.2 4 + 1)) q_1 0 (by first | assumption | omega) (by first | assumption | omega) (by first | assumption | omega) _) (cwV 1 hts h_L_bench_6 rfl rfl rfl (by decide +kernel) ⟨Nat.le_of_ble_eq_true rfl, Nat.le_of_ble_eq_true rfl⟩) (fPvB [] (hbe) hK hP hD hS hG hF) rfl rfl hl.1 rfl (lv_room (Nat.le_of_ble_eq_true rfl)) dL_bench_259 ⟨Nat.le_of_ble_eq_true rfl, Nat.le_of_ble_eq_true rfl⟩) hS (fun q _ h => hF q h) hF (fun r_31 w1 t H locs ht hvm hw hB hz1 hk1 hS => ?_)
                            obtain ⟨hP, hD⟩ := chJ [] hP hD hk1 hF ht hB
                            try dsimp only at hw
                            obtain ⟨S_2, rfl, e_19, q_15⟩ := hw
                            replace e_19 := e_19.symm
                            subst e_19
                            have hP : va_P D vwCl (wB kA (uP (uP B.1 0 S_1, uP (uP B.2 3 dw_1) 4 (B.2 4 + 1)).1 0 S_2, (uP B.1 0 S_1, uP (uP B.2 3 dw_1) 4 (B.2 4 + 1)).2)) H := hP
                            have hD : va_D A (wB kA (uP (uP B.1 0 S_1, uP (uP B.2 3 dw_1) 4 (B.2 4 + 1)).1 0 S_2, (uP B.1 0 S_1, uP (uP B.2 3 dw_1) 4 (B.2 4 + 1)).2)) := hD
                            have hL := LI_T hL (by decide) q_15.1 (congrFun q_15.2.1 3)
                            have hI := hL.1
                            refine lv_pop hx hb dL_bench_262 rfl ?_
                            exact jn_263 (uP (uP B.1 0 S_1, uP (uP B.2 3 dw_1) 4 (B.2 4 + 1)).1 0 S_2, (uP B.1 0 S_1, uP (uP B.2 3 dw_1) 4 (B.2 4 + 1)).2) trivial hbe hL hM5 hM6 (by rw [show nn (((uP (uP B.1 0 S_1, uP (uP B.2 3 dw_1) 4 (B.2 4 + 1)).1 0 S_2, (uP B.1 0 S_1, uP (uP B.2 3 dw_1) 4 (B.2 4 + 1)).2)).1 0) 5 = _ from congrFun ((congrArg nn (uP_at _ _ _)).trans q_15.2.1) 5]; exact (by rw [show nn (((uP B.1 0 S_1, uP (uP B.2 3 dw_1) 4 (B.2 4 + 1))).1 0) 5 = _ from congrFun (congrArg nn (uP_at _ _ _)) 5, q_14.2.2.1]; exact hn0)) _ _ _ hP hD hS (lv_sub hl [0, 1, 2, 3] rfl)
                        refine lv_if_ne (tgt := 233) hx hb dL_bench_196 (by decide) (fun c196 => ?_) (fun c196 => ?_)
                        ·
                          rw [qz (a := k_5) (by omega)] at c196
                          exact jn_233 B trivial hbe hL hM5 hM6 hn0 _ _ _ hP hD hS (lv_sub hl [0, 1, 2, 3] rfl)
                        ·
                          rw [qz (a := k_5) (by omega)] at c196
                          refine lv_aload_n hx hb dL_bench_199 rfl (lv_at hl 1 rfl) ?_
                          refine lv_iconst (v := nI 0) hx hb dL_bench_200 (by decide) ?_
                          refine lv_aload_n hx hb dL_bench_201 rfl (lv_at hl 2 rfl) ?_
                          refine lv_bipush (v := nI 14) hx hb dL_bench_202 (by decide) ?_
                          refine lv_iload hx hb dL_bench_204 (lv_at hl 0 rfl) ?_
                          refine lv_iadd hx hb dL_bench_206 ?_
                          rw [nI_add 14 i]
                          have hF := chF0 hS hA
                          refine va_calli (va_runS (As := [.ref z, .int (nI (14 + i))]) (rest := [.int (nI 0), .ref q_1]) ⟨hx, hb, hml, hown, hts⟩ (c_L_cell l D kA z (14 + i) (by first | assumption | omega) _) (va_cwS 2 hts h_L_bench_2 rfl rfl rfl (by decide +kernel) ⟨Nat.le_of_ble_eq_true rfl, Nat.le_of_ble_eq_true rfl⟩) (fPs0 hK hS hG hF) rfl rfl hl.1 rfl (lv_room (Nat.le_of_ble_eq_true rfl)) dL_bench_207 ⟨Nat.le_of_ble_eq_true rfl, Nat.le_of_ble_eq_true rfl⟩) hS (fun q _ h => hF q h) hF (fun r_32 w1 t H locs ht hvm hw hB hz1 hk1 hS => ?_)
                          obtain ⟨hP, hD⟩ := chJ0 hP hD hk1 hF ht hB
                          try dsimp only at hw
                          obtain ⟨v_11, rfl, e_20⟩ := hw
                          rw [List.append_nil] at hP hD
                          replace e_20 := e_20.symm
                          subst e_20
                          have hP : va_P D vwCl (wB kA B) H := hP
                          have hD : va_D A (wB kA B) := hD
                          refine lv_iconst (v := nI 3) hx hb dL_bench_210 (by decide) ?_
                          refine lv_ishr hx hb dL_bench_211 ?_
                          refine lv_aload_n hx hb dL_bench_212 rfl (lv_at hl 1 rfl) ?_
                          refine lv_iconst (v := nI 0) hx hb dL_bench_213 (by decide) ?_
                          refine lv_iconst (v := nI 1) hx hb dL_bench_214 (by decide) ?_
                          have hF := chF [] hD hS hA
                          refine va_calli (va_runV (As := [.int (nI 0), .int (nI 1)]) (rest := [.int (v_11 >>> ((nI 3) &&& 31)), .int (nI 0), .ref q_1]) ⟨hx, hb, hml, hown, hts⟩ (c_X6_ofTrack_B1 l D kA z B q_1 0 (by first | assumption | omega) (by first | assumption | omega) (by first | assumption | omega) _) (cwV 2 hts h_L_bench_4 rfl rfl rfl (by decide +kernel) ⟨Nat.le_of_ble_eq_true rfl, Nat.le_of_ble_eq_true rfl⟩) (fPvB [] (hbe) hK hP hD hS hG hF) rfl rfl hl.1 rfl (lv_room (Nat.le_of_ble_eq_true rfl)) dL_bench_215 ⟨Nat.le_of_ble_eq_true rfl, Nat.le_of_ble_eq_true rfl⟩) hS (fun q _ h => hF q h) hF (fun r_33 w1 t H locs ht hvm hw hB hz1 hk1 hS => ?_)
                          obtain ⟨hP, hD⟩ := chJ [] hP hD hk1 hF ht hB
                          try dsimp only at hw
                          obtain ⟨rfl, e_21⟩ := hw
                          replace e_21 := e_21.symm
                          subst e_21
                          have hP : va_P D vwCl (wB kA B) H := hP
                          have hD : va_D A (wB kA B) := hD
                          have hF := chF0 hS hA
                          refine va_calli (va_runS (As := [.int (v_11 >>> ((nI 3) &&& 31)), .int (nI (nn (B.1 0) 5))]) (rest := [.int (nI 0), .ref q_1]) ⟨hx, hb, hml, hown, hts⟩ (c_L_below l D kA z (v_11 >>> ((nI 3) &&& 31)) (nn (B.1 0) 5) (by first | assumption | omega) (by first | assumption | omega) _) (va_cwS 2 hts h_L_bench_3 rfl rfl rfl (by decide +kernel) ⟨Nat.le_of_ble_eq_true rfl, Nat.le_of_ble_eq_true rfl⟩) (fPs0 hK hS hG hF) rfl rfl hl.1 rfl (lv_room (Nat.le_of_ble_eq_true rfl)) dL_bench_218 ⟨Nat.le_of_ble_eq_true rfl, Nat.le_of_ble_eq_true rfl⟩) hS (fun q _ h => hF q h) hF (fun r_34 w1 t H locs ht hvm hw hB hz1 hk1 hS => ?_)
                          obtain ⟨hP, hD⟩ := chJ0 hP hD hk1 hF ht hB
                          try dsimp only at hw
                          obtain ⟨k_7, rfl, e_22, hkq_7⟩ := hw
                          rw [List.append_nil] at hP hD
                          replace e_22 := e_22.symm
                          subst e_22
                          have hP : va_P D vwCl (wB kA B) H := hP
                          have hD : va_D A (wB kA B) := hD
                          refine lv_aload_n hx hb dL_bench_221 rfl (lv_at hl 1 rfl) ?_
                          refine lv_iconst (v := nI 0) hx hb dL_bench_222 (by decide) ?_
                          refine lv_iconst (v := nI 1) hx hb dL_bench_223 (by decide) ?_
                          have hF := chF [] hD hS hA
                          refine va_calli (va_runV (As := [.int (nI 0), .int (nI 1)]) (rest := [.int (nI k_7), .int (nI 0), .ref q_1]) ⟨hx, hb, hml, hown, hts⟩ (c_X6_ofTrack_B1 l D kA z B q_1 0 (by first | assumption | omega) (by first | assumption | omega) (by first | assumption | omega) _) (cwV 2 hts h_L_bench_4 rfl rfl rfl (by decide +kernel) ⟨Nat.le_of_ble_eq_true rfl, Nat.le_of_ble_eq_true rfl⟩) (fPvB [] (hbe) hK hP hD hS hG hF) rfl rfl hl.1 rfl (lv_room (Nat.le_of_ble_eq_true rfl)) dL_bench_224 ⟨Nat.le_of_ble_eq_true rfl, Nat.le_of_ble_eq_true rfl⟩) hS (fun q _ h => hF q h) hF (fun r_35 w1 t H locs ht hvm hw hB hz1 hk1 hS => ?_)
                          obtain ⟨hP, hD⟩ := chJ [] hP hD hk1 hF ht hB
                          try dsimp only at hw
                          obtain ⟨rfl, e_23⟩ := hw
                          replace e_23 := e_23.symm
                          subst e_23
                          have hP : va_P D vwCl (wB kA B) H := hP
                          have hD : va_D A (wB kA B) := hD
                          refine lv_iconst (v := nI 1) hx hb dL_bench_227 (by decide) ?_
                          refine lv_isub hx hb dL_bench_228 ?_
                          rw [pk_sub (a := (nn (B.1 0) 5)) (b := 1) (by omega)]
                          have hF := chF [] hD hS hA
                          refine va_calli (va_runV (As := [.int (nI 0), .int (nI k_7), .int (nI (nn (B.1 0) 5 - 1))]) (rest := []) ⟨hx, hb, hml, hown, hts⟩ (c_X6_dirt_B l D kA z B q_1 0 k_7 (nn (B.1 0) 5 - 1) (by first | assumption | omega) (by first | assumption | omega) (by first | assumption | omega) (by first | assumption | omega) (by first | assumption | omega) (by first | assumption | omega) _) (cwV 3 hts h_L_bench_7 rfl rfl rfl (by decide +kernel) ⟨Nat.le_of_ble_eq_true rfl, Nat.le_of_ble_eq_true rfl⟩) (fPvB [] (hbe) hK hP hD hS hG hF) rfl rfl hl.1 rfl (lv_room (Nat.le_of_ble_eq_true rfl)) dL_bench_229 ⟨Nat.le_of_ble_eq_true rfl, Nat.le_of_ble_eq_true rfl⟩) hS (fun q _ h => hF q h) hF (fun r_36 w1 t H locs ht hvm hw hB hz1 hk1 hS => ?_)
                          obtain ⟨hP, hD⟩ := chJ [] hP hD hk1 hF ht hB
                          try dsimp only at hw
                          obtain ⟨S_3, rfl, e_24, q_16⟩ := hw
                          replace e_24 := e_24.symm
                          subst e_24
                          have hP : va_P D vwCl (wB kA (uP B.1 0 S_3, B.2)) H := hP
                          have hD : va_D A (wB kA (uP B.1 0 S_3, B.2)) := hD
                          have hL := LI_T hL (by decide) q_16.1 (congrFun q_16.2.1 3)
                          have hI := hL.1
                          refine lv_pop hx hb dL_bench_232 rfl ?_
                          exact jn_233 (uP B.1 0 S_3, B.2) trivial hbe hL hM5 hM6 (by rw [show nn (((uP B.1 0 S_3, B.2)).1 0) 5 = _ from congrFun ((congrArg nn (uP_at _ _ _)).trans q_16.2.1) 5]; exact hn0) _ _ _ hP hD hS (lv_sub hl [0, 1, 2, 3] rfl)
                  exact lp_166 4 0 B (by omega) (by first | assumption | omega | rfl) hbe hL hM5 hM6 hn0 _ _ _ hP hD hS (lv_sub hl [0, 1, 2, 3] rfl)
                ·
                  rw [qle (a := k_3) (b := i) (by omega) (by omega)] at c129
                  refine lv_aload_n hx hb dL_bench_132 rfl (lv_at hl 1 rfl) ?_
                  refine lv_iconst (v := nI 0) hx hb dL_bench_133 (by decide) ?_
                  refine lv_aload_n hx hb dL_bench_134 rfl (lv_at hl 2 rfl) ?_
                  refine lv_bipush (v := nI 10) hx hb dL_bench_135 (by decide) ?_
                  refine lv_iload hx hb dL_bench_137 (lv_at hl 0 rfl) ?_
                  refine lv_iadd hx hb dL_bench_139 ?_
                  rw [nI_add 10 i]
                  have hF := chF0 hS hA
                  refine va_calli (va_runS (As := [.ref z, .int (nI (10 + i))]) (rest := [.int (nI 0), .ref q_1]) ⟨hx, hb, hml, hown, hts⟩ (c_L_cell l D kA z (10 + i) (by first | assumption | omega) _) (va_cwS 2 hts h_L_bench_2 rfl rfl rfl (by decide +kernel) ⟨Nat.le_of_ble_eq_true rfl, Nat.le_of_ble_eq_true rfl⟩) (fPs0 hK hS hG hF) rfl rfl hl.1 rfl (lv_room (Nat.le_of_ble_eq_true rfl)) dL_bench_140 ⟨Nat.le_of_ble_eq_true rfl, Nat.le_of_ble_eq_true rfl⟩) hS (fun q _ h => hF q h) hF (fun r_37 w1 t H locs ht hvm hw hB hz1 hk1 hS => ?_)
                  obtain ⟨hP, hD⟩ := chJ0 hP hD hk1 hF ht hB
                  try dsimp only at hw
                  obtain ⟨v_12, rfl, e_25⟩ := hw
                  rw [List.append_nil] at hP hD
                  replace e_25 := e_25.symm
                  subst e_25
                  have hP : va_P D vwCl (wB kA B) H := hP
                  have hD : va_D A (wB kA B) := hD
                  refine lv_aload_n hx hb dL_bench_143 rfl (lv_at hl 1 rfl) ?_
                  refine lv_iconst (v := nI 0) hx hb dL_bench_144 (by decide) ?_
                  refine lv_iconst (v := nI 1) hx hb dL_bench_145 (by decide) ?_
                  have hF := chF [] hD hS hA
                  refine va_calli (va_runV (As := [.int (nI 0), .int (nI 1)]) (rest := [.int v_12, .int (nI 0), .ref q_1]) ⟨hx, hb, hml, hown, hts⟩ (c_X6_ofTrack_B1 l D kA z B q_1 0 (by first | assumption | omega) (by first | assumption | omega) (by first | assumption | omega) _) (cwV 2 hts h_L_bench_4 rfl rfl rfl (by decide +kernel) ⟨Nat.le_of_ble_eq_true rfl, Nat.le_of_ble_eq_true rfl⟩) (fPvB [] (hbe) hK hP hD hS hG hF) rfl rfl hl.1 rfl (lv_room (Nat.le_of_ble_eq_true rfl)) dL_bench_146 ⟨Nat.le_of_ble_eq_true rfl, Nat.le_of_ble_eq_true rfl⟩) hS (fun q _ h => hF q h) hF (fun r_38 w1 t H locs ht hvm hw hB hz1 hk1 hS => ?_)
                  obtain ⟨hP, hD⟩ := chJ [] hP hD hk1 hF ht hB
                  try dsimp only at hw
                  obtain ⟨rfl, e_26⟩ := hw
                  replace e_26 := e_26.symm
                  subst e_26
                  have hP : va_P D vwCl (wB kA B) H := hP
                  have hD : va_D A (wB kA B) := hD
                  have hF := chF0 hS hA
                  refine va_calli (va_runS (As := [.int v_12, .int (nI (nn (B.1 0) 5))]) (rest := [.int (nI 0), .ref q_1]) ⟨hx, hb, hml, hown, hts⟩ (c_L_below l D kA z v_12 (nn (B.1 0) 5) (by first | assumption | omega) (by first | assumption | omega) _) (va_cwS 2 hts h_L_bench_3 rfl rfl rfl (by decide +kernel) ⟨Nat.le_of_ble_eq_true rfl, Nat.le_of_ble_eq_true rfl⟩) (fPs0 hK hS hG hF) rfl rfl hl.1 rfl (lv_room (Nat.le_of_ble_eq_true rfl)) dL_bench_149 ⟨Nat.le_of_ble_eq_true rfl, Nat.le_of_ble_eq_true rfl⟩) hS (fun q _ h => hF q h) hF (fun r_39 w1 t H locs ht hvm hw hB hz1 hk1 hS => ?_)
                  obtain ⟨hP, hD⟩ := chJ0 hP hD hk1 hF ht hB
                  try dsimp only at hw
                  obtain ⟨k_8, rfl, e_27, hkq_8⟩ := hw
                  rw [List.append_nil] at hP hD
                  replace e_27 := e_27.symm
                  subst e_27
                  have hP : va_P D vwCl (wB kA B) H := hP
                  have hD : va_D A (wB kA B) := hD
                  refine lv_iconst (v := nI 1) hx hb dL_bench_152 (by decide) ?_
                  have hF := chF [] hD hS hA
                  refine va_calli (va_runV (As := [.int (nI 0), .int (nI k_8), .int (nI 1)]) (rest := []) ⟨hx, hb, hml, hown, hts⟩ (c_X6_weak_B l D kA z B q_1 0 k_8 1 (by first | assumption | omega) (by first | assumption | omega) (by first | assumption | omega) (by first | assumption | omega) (by first | assumption | omega) _) (cwV 3 hts h_L_bench_8 rfl rfl rfl (by decide +kernel) ⟨Nat.le_of_ble_eq_true rfl, Nat.le_of_ble_eq_true rfl⟩) (fPvB [] (hbe) hK hP hD hS hG hF) rfl rfl hl.1 rfl (lv_room (Nat.le_of_ble_eq_true rfl)) dL_bench_153 ⟨Nat.le_of_ble_eq_true rfl, Nat.le_of_ble_eq_true rfl⟩) hS (fun q _ h => hF q h) hF (fun r_40 w1 t H locs ht hvm hw hB hz1 hk1 hS => ?_)
                  obtain ⟨hP, hD⟩ := chJ [] hP hD hk1 hF ht hB
                  try dsimp only at hw
                  obtain ⟨S_4, wb_1, rfl, hw_1, e_28, hw_2, q_17⟩ := hw
                  replace e_28 := e_28.symm
                  subst e_28
                  have hP : va_P D vwCl (wB kA (uP B.1 0 S_4, B.2)) H := hP
                  have hD : va_D A (wB kA (uP B.1 0 S_4, B.2)) := hD
                  have hL := LI_T hL (by decide) q_17.1 (congrFun q_17.2.1 3)
                  have hI := hL.1
                  refine lv_pop hx hb dL_bench_156 rfl ?_
                  refine lv_iinc (v := nI (i + 1)) (lv' := [(4, .int (nI (i + 1))), (2, .ref q_1), (0, .ref z), (1, .int (nI cd))]) hx hb dL_bench_157 hl (k := 0) rfl (nI_add i 1) (by decide) rfl (fun ls hl => ?_)
                  refine lv_goto (tgt := 117) hx hb dL_bench_160 (by decide) ?_
                  exact ih_117 (i + 1) (uP B.1 0 S_4, B.2) (by omega) (by first | assumption | omega | rfl) hbe hL hM5 hM6 (by rw [show nn (((uP B.1 0 S_4, B.2)).1 0) 5 = _ from congrFun ((congrArg nn (uP_at _ _ _)).trans q_17.2.1) 5]; exact hn0) _ _ _ hP hD hS (lv_sub hl [0, 1, 2, 3] rfl)
            exact lp_117 4 0 B (by omega) (by first | assumption | omega | rfl) hbe hL hM5 hM6 hn0 _ _ _ hP hD hS (lv_sub hl [0, 1, 2, 3] rfl)
          refine lv_if_ne (tgt := 114) hx hb dL_bench_105 (by decide) (fun c105 => ?_) (fun c105 => ?_)
          ·
            rw [qz (a := (nn (B.1 0) 5)) (by omega)] at c105
            exact jn_114 B trivial hbe hL (by first | assumption | omega | rfl) (by first | assumption | omega | rfl) (by omega) _ _ _ hP hD hS (lv_sub hl [1, 2, 3] rfl)
          ·
            rw [qz (a := (nn (B.1 0) 5)) (by omega)] at c105
            refine lv_aload_n hx hb dL_bench_108 rfl (lv_at hl 1 rfl) ?_
            refine lv_iconst (v := nI 0) hx hb dL_bench_109 (by decide) ?_
            have hF := chF [] hD hS hA
            refine va_calli (va_runV (As := [.int (nI 0)]) (rest := []) ⟨hx, hb, hml, hown, hts⟩ (c_X6_mark_B l D kA z B q_1 0 (by first | assumption | omega) (by first | assumption | omega) (by first | assumption | omega) (by first | assumption | omega) _) (cwV 1 hts h_L_bench_9 rfl rfl rfl (by decide +kernel) ⟨Nat.le_of_ble_eq_true rfl, Nat.le_of_ble_eq_true rfl⟩) (fPvB [] (hbe) hK hP hD hS hG hF) rfl rfl hl.1 rfl (lv_room (Nat.le_of_ble_eq_true rfl)) dL_bench_110 ⟨Nat.le_of_ble_eq_true rfl, Nat.le_of_ble_eq_true rfl⟩) hS (fun q _ h => hF q h) hF (fun r_41 w1 t H locs ht hvm hw hB hz1 hk1 hS => ?_)
            obtain ⟨hP, hD⟩ := chJ [] hP hD hk1 hF ht hB
            try dsimp only at hw
            obtain ⟨S_5, rfl, e_29, q_18, m_1, m_2, m_3⟩ := hw
            replace e_29 := e_29.symm
            subst e_29
            have hP : va_P D vwCl (wB kA (uP B.1 0 S_5, B.2)) H := hP
            have hD : va_D A (wB kA (uP B.1 0 S_5, B.2)) := hD
            have hL := LI_T hL (by decide) q_18.1 (q_18.2.1 3 (by decide))
            have hI := hL.1
            refine lv_pop hx hb dL_bench_113 rfl ?_
            exact jn_114 (uP B.1 0 S_5, B.2) trivial hbe hL (by first | assumption | omega | rfl) (by first | assumption | omega | rfl) (by rw [show nn (((uP B.1 0 S_5, B.2)).1 0) 5 = _ from congrFun (congrArg nn (uP_at _ _ _)) 5, q_18.2.2.1]; omega) _ _ _ hP hD hS (lv_sub hl [1, 2, 3] rfl)
        ·
          rw [qle (a := (3 + k_2)) (b := i) (by omega) (by omega)] at c77
          refine lv_aload_n hx hb dL_bench_80 rfl (lv_at hl 1 rfl) ?_
          refine lv_aload_n hx hb dL_bench_81 rfl (lv_at hl 2 rfl) ?_
          refine lv_iconst (v := nI 2) hx hb dL_bench_82 (by decide) ?_
          refine lv_iload_n hx hb dL_bench_83 rfl (lv_at hl 0 rfl) ?_
          refine lv_iadd hx hb dL_bench_84 ?_
          rw [nI_add 2 i]
          have hF := chF0 hS hA
          refine va_calli (va_runS (As := [.ref z, .int (nI (2 + i))]) (rest := [.ref q_1]) ⟨hx, hb, hml, hown, hts⟩ (c_L_cell l D kA z (2 + i) (by first | assumption | omega) _) (va_cwS 2 hts h_L_bench_2 rfl rfl rfl (by decide +kernel) ⟨Nat.le_of_ble_eq_true rfl, Nat.le_of_ble_eq_true rfl⟩) (fPs0 hK hS hG hF) rfl rfl hl.1 rfl (lv_room (Nat.le_of_ble_eq_true rfl)) dL_bench_85 ⟨(Nat.le_trans (Nat.add_le_add_right (show 94 + i ≤ 110 by omega) _) (Nat.le_of_ble_eq_true rfl)), (Nat.le_trans (Nat.add_le_add_right (show 13683 + 6 * i ≤ 14000 by omega) _) (Nat.le_of_ble_eq_true rfl))⟩) hS (fun q _ h => hF q h) hF (fun r_42 w1 t H locs ht hvm hw hB hz1 hk1 hS => ?_)
          obtain ⟨hP, hD⟩ := chJ0 hP hD hk1 hF ht hB
          try dsimp only at hw
          obtain ⟨v_13, rfl, e_30⟩ := hw
          rw [List.append_nil] at hP hD
          replace e_30 := e_30.symm
          subst e_30
          have hP : va_P D vwCl (wB kA B) H := hP
          have hD : va_D A (wB kA B) := hD
          have hF := chF [] hD hS hA
          refine va_callv (vx_runSW (As := [.ref q_1, .int v_13]) (rest := []) ⟨hx, hb, hml, hown, hts⟩ (c_L_write l D kA z hfl B q_1 v_13 (by first | assumption | omega) (by first | assumption | omega) _) (vx_cwSW 2 hts h_L_bench_10 rfl rfl rfl (by decide +kernel) ⟨Nat.le_of_ble_eq_true rfl, Nat.le_of_ble_eq_true rfl⟩) (fPsB [] hK hP hD hS hG hF) rfl rfl hl.1 rfl (lv_room (Nat.le_of_ble_eq_true rfl)) dL_bench_88 ⟨(Nat.le_trans (Nat.add_le_add_right (show 94 + i ≤ 109 by omega) _) (Nat.le_of_ble_eq_true rfl)), (Nat.le_trans (Nat.add_le_add_right (show 13683 + 6 * i ≤ 13994 by omega) _) (Nat.le_of_ble_eq_true rfl))⟩) hS (fun q _ h => hF q h) hF (fun w1 t H locs ht hvm hw hB hz1 hk1 hS => ?_)
          obtain ⟨hP, hD⟩ := chJ [] hP hD hk1 hF ht hB
          try dsimp only at hw
          obtain ⟨B_1, rfl, hbe_1, hI_1, hM_1, hr_1⟩ := hw
          have hP : va_P D vwCl (wB kA B_1) H := hP
          have hD : va_D A (wB kA B_1) := hD
          refine lv_iinc (v := nI (i + 1)) (lv' := [(3, .int (nI (i + 1))), (2, .ref q_1), (0, .ref z), (1, .int (nI cd))]) hx hb dL_bench_91 hl (k := 0) rfl (nI_add i 1) (by decide) rfl (fun ls hl => ?_)
          refine lv_goto (tgt := 63) hx hb dL_bench_94 (by decide) ?_
          refine W.widen (k := 94 + (i + 1)) (n := 13683 + 6 * (i + 1)) (show 94 + i + 1 ≤ 94 + (i + 1) by omega) (show 13683 + 6 * i + 6 ≤ 13683 + 6 * (i + 1) by omega) ?_
          exact ih_63 (i + 1) B_1 (by omega) (by first | assumption | omega | rfl) hbe_1 (LI_W hL hI_1 hM_1 hr_1) (by rw [hM_1]; exact hM5) (by rw [hM_1]; exact hM6) _ _ _ hP hD hS (lv_sub hl [0, 1, 2, 3] rfl)
    refine W.widen (k := 94 + 0) (n := 13683 + 6 * 0) (show 0 + 1 + 1 + 23 + 23 + 23 + 23 ≤ 94 + 0 by omega) (show 0 + 7 + 4 + 3418 + 3418 + 3418 + 3418 ≤ 13683 + 6 * 0 by omega) ?_
    exact lp_63 8 0 B (by omega) (by first | assumption | omega | rfl) hbe hL hM5 hM6 _ _ _ hP hD hS (lv_sub hl [0, 1, 2, 3] rfl)
  refine lv_if_ne (tgt := 61) hx hb dL_bench_41 (by decide) (fun c41 => ?_) (fun c41 => ?_)
  ·
    rw [qz (a := k_1) (by omega)] at c41
    exact jn_61 B trivial hbe hL hM5 hM6 _ _ _ hP hD hS (lv_sub hl [0, 1, 2] rfl)
  ·
    rw [qz (a := k_1) (by omega)] at c41
    refine lv_aload_n hx hb dL_bench_44 rfl (lv_at hl 0 rfl) ?_
    refine lv_bipush (v := nI 7) hx hb dL_bench_45 (by decide) ?_
    refine lv_aload_n hx hb dL_bench_47 rfl (lv_at hl 1 rfl) ?_
    refine lv_iconst (v := nI 1) hx hb dL_bench_48 (by decide) ?_
    have hF := chF0 hS hA
    refine va_calli (va_runS (As := [.ref z, .int (nI 1)]) (rest := [.int (nI 7), .ref q_1]) ⟨hx, hb, hml, hown, hts⟩ (c_L_cell l D kA z 1 (by first | assumption | omega) _) (va_cwS 2 hts h_L_bench_2 rfl rfl rfl (by decide +kernel) ⟨Nat.le_of_ble_eq_true rfl, Nat.le_of_ble_eq_true rfl⟩) (fPs0 hK hS hG hF) rfl rfl hl.1 rfl (lv_room (Nat.le_of_ble_eq_true rfl)) dL_bench_49 ⟨Nat.le_of_ble_eq_true rfl, Nat.le_of_ble_eq_true rfl⟩) hS (fun q _ h => hF q h) hF (fun r_43 w1 t H locs ht hvm hw hB hz1 hk1 hS => ?_)
    obtain ⟨hP, hD⟩ := chJ0 hP hD hk1 hF ht hB
    try dsimp only at hw
    obtain ⟨v_14, rfl, e_31⟩ := hw
    rw [List.append_nil] at hP hD
    replace e_31 := e_31.symm
    subst e_31
    have hP : va_P D vwCl (wB kA B) H := hP
    have hD : va_D A (wB kA B) := hD
    refine lv_iconst (v := nI 3) hx hb dL_bench_52 (by decide) ?_
    have hF := chF0 hS hA
    refine va_calli (va_runS (As := [.int v_14, .int (nI 3)]) (rest := [.int (nI 7), .ref q_1]) ⟨hx, hb, hml, hown, hts⟩ (c_L_below l D kA z v_14 3 (by first | assumption | omega) (by first | assumption | omega) _) (va_cwS 2 hts h_L_bench_3 rfl rfl rfl (by decide +kernel) ⟨Nat.le_of_ble_eq_true rfl, Nat.le_of_ble_eq_true rfl⟩) (fPs0 hK hS hG hF) rfl rfl hl.1 rfl (lv_room (Nat.le_of_ble_eq_true rfl)) dL_bench_53 ⟨Nat.le_of_ble_eq_true rfl, Nat.le_of_ble_eq_true rfl⟩) hS (fun q _ h => hF q h) hF (fun r_44 w1 t H locs ht hvm hw hB hz1 hk1 hS => ?_)
    obtain ⟨hP, hD⟩ := chJ0 hP hD hk1 hF ht hB
    try dsimp only at hw
    obtain ⟨k_9, rfl, e_32, hkq_9⟩ := hw
    rw [List.append_nil] at hP hD
    replace e_32 := e_32.symm
    subst e_32
    have hP : va_P D vwCl (wB kA B) H := hP
    have hD : va_D A (wB kA B) := hD
    refine lv_iadd hx hb dL_bench_56 ?_
    rw [nI_add 7 k_9]
    have hF := chF [] hD hS hA
    refine va_calli (va_runV (As := [.int (nI (7 + k_9))]) (rest := []) ⟨hx, hb, hml, hown, hts⟩ (c_X6_speed_B l D kA z B q_1 (7 + k_9) (by first | assumption | omega) (by first | assumption | omega) (by first | assumption | omega) (by first | assumption | omega) _) (cwV 1 hts h_L_bench_11 rfl rfl rfl (by decide +kernel) ⟨Nat.le_of_ble_eq_true rfl, Nat.le_of_ble_eq_true rfl⟩) (fPvB [] (hbe) hK hP hD hS hG hF) rfl rfl hl.1 rfl (lv_room (Nat.le_of_ble_eq_true rfl)) dL_bench_57 ⟨Nat.le_of_ble_eq_true rfl, Nat.le_of_ble_eq_true rfl⟩) hS (fun q _ h => hF q h) hF (fun r_45 w1 t H locs ht hvm hw hB hz1 hk1 hS => ?_)
    obtain ⟨hP, hD⟩ := chJ [] hP hD hk1 hF ht hB
    try dsimp only at hw
    subst hw
    have hP : va_P D vwCl (wB kA (B.1, uP B.2 2 (7 + k_9))) H := hP
    have hD : va_D A (wB kA (B.1, uP B.2 2 (7 + k_9))) := hD
    have hL := LI_S (x := (7 + k_9)) hL (by omega) (by omega)
    have hI := hL.1
    refine lv_pop hx hb dL_bench_60 rfl ?_
    exact jn_61 (B.1, uP B.2 2 (7 + k_9)) trivial hbe hL hM5 hM6 _ _ _ hP hD hS (lv_sub hl [0, 1, 2] rfl)
